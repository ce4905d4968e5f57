/-- what the tables say of a method, of n parameters -/
def ab_mo (y : ab_M) (n : Nat) : Prop := Cond.code y.1 y.2.1 y.2.2.1 y.2.2.2 ∈ ab_T ∧ Cond.initialized y.1.cls ∈ ab_T ∧ (y.1.cls ≠ "java/lang/invoke/MethodHandle" ∧ y.1.cls ≠ "java/lang/invoke/VarHandle" ∧ (parseMethodDescriptor y.1.desc).map (fun d => d.parameters.length) = some n) ∧ y.2.2.1 ≤ 40
/-- a link to a method -/
def ab_ml (own : String) (i : Nat) (y : ab_M) : Prop := Cond.methodLink own i y.1 ∈ ab_T ∨ ∃ host, Cond.methodLinkNest own i y.1 host ∈ ab_T2
theorem ab_ws_good {y : ab_M} (h : Cond.code y.1 y.2.1 y.2.2.1 y.2.2.2 ∈ ab_T) : GoodIn ab_T (ab_ws y) := by
  intro w hw
  rcases List.mem_cons.mp hw with rfl | hw
  · exact ab_T_self _ h
  · exact ab_T_self _ hw
theorem ab_lv_args (E : ab_En) (as : List Value) : ∀ i, lv_args i (as.map (ab_cv E)) = ab_lc E (lv_args i as) := by
  induction as with
  | nil => intro i; rfl
  | cons a as ih =>
    intro i
    show (i, ab_cv E a) :: lv_args (if (ab_cv E a).category = 2 then i + 2 else i + 1) (as.map (ab_cv E)) = (i, ab_cv E a) :: ab_lc E (lv_args (if a.category = 2 then i + 2 else i + 1) as)
    rw [ih, ab_cv_cat]
theorem ab_lg_len (E : ab_En) (as : List Value) : (lg_sl (as.map (ab_cv E))).length = (lg_sl as).length := by
  induction as with
  | nil => rfl
  | cons a as ih =>
    have h1 : ∀ (v : Value) (t : List Value), (lg_sl (v :: t)).length = (if v.category = 2 then 2 else 1) + (lg_sl t).length := by
      intro v t
      simp only [lg_sl, List.flatMap_cons, List.length_append]
      split <;> rfl
    rw [List.map_cons, h1, h1, ih, ab_cv_cat]
theorem ab_MQ0 {below : List Frame} {Qc : Array Value → State → Outcome → State → Prop} {a : Array Value} {s : State} {mc ms : Nat} {free : Addr → Prop} {p : Program} {l : Launch} {e : Env} {R : Room} {m : MethodId} {meth : Method} {c : Code} {H : Heap} {locs : List Loc} {g : JFrame} (h : W p l e R s m a below meth c H locs mc ms (MQ below Qc a s mc ms free) g) : W p l e R s m a below meth c H locs (0 + mc) (0 + ms) (MQ below Qc a s mc ms free) g := by
  rw [Nat.zero_add, Nat.zero_add]
  exact h
/-- A CONTRACT out of a walk of the method's body -/
theorem ab_C_of {l : Launch} {y : ab_M} {d kc ks : Nat} {as : List Value} {M : ab_Me} {K : Option Value → ab_Me → Prop} {L : List (Nat × Value)} (hy : plainName y.1.cls = true) (hL : lv_args 0 as = L) (hz : (lg_sl as).length ≤ y.2.2.1) (h : ab_G l none y d kc ks 0 L [] M K) : ab_C l y d kc ks as M K := by
  intro E D sz
  refine Met.ofW (cc := y.2.1) (maxL := y.2.2.1) (ret := y.2.2.2) hy rfl ?_
  intro p e s m args below meth c s₁ B hml hv
  obtain ⟨rfl, hsz, hNW, hR0⟩ := hv
  have hx := B.exec
  have hb := B.bytes
  have hr := B.returns
  have hts0 := atoms_spec (ws := ab_ws y) B.pre
  have hts : ∀ w ∈ ab_T, w.before (as.map (ab_cv E)).toArray s = true := fun w hw => hts0 w (List.mem_cons_of_mem _ hw)
  have hown : s.vm.findClass y.1.cls = some m.cls := findClass_of_methodNamed B.named
  have hlocks := B.notSynchronized
  have hin : meth.name = y.1.name := (name_of_methodNamed B.named B.method).1
  subst hsz
  have hR : ab_R E M D (va_A (ab_Wd E M) s.heap.size) s s.heap := ⟨hR0.1, hR0.2.1.self, hR0.2.2⟩
  have hA : ∀ q : Nat, s.heap.size ≤ q → va_A (ab_Wd E M) s.heap.size q := fun q h => Or.inr h
  have hl := lv_entry (as.map (ab_cv E)) (n := y.2.2.1) (by rw [ab_lg_len]; exact hz)
  rw [lg_entry_eq]
  generalize (lg_sl (as.map (ab_cv E)) ++ List.replicate (y.2.2.1 - (lg_sl (as.map (ab_cv E))).length) Slot.unset).toArray = ls at hl ⊢
  rw [ab_lv_args, hL] at hl
  refine h p e (ab_rm d kc ks) s m _ below meth c E D (va_A (ab_Wd E M) s.heap.size) s.heap [] 0 0 ls _ ⟨⟨hx, hb, hml, hown, hts⟩, ⟨Nat.le_refl _, Nat.le_refl _⟩, fun h => hin.trans h, hA, trivial, hNW, ⟨by show 0 + kc ≤ kc; omega, by show 0 + ks ≤ ks; omega⟩, ?_⟩ hR va_S.rf hl
  intro E' M' H' locs' ls' pc' v hxt hK hvt hR' hS' hdg
  apply ab_MQ0
  have hq : ∀ t : State, t.heap = H' → s.WarmedH t.vm → ab_Q E M D s.heap.size kc y.2.2.2 K (as.map (ab_cv E)).toArray s (.returned (v.map (ab_cv E'))) t := by
    intro t ht hW
    refine ⟨⟨v, E', M', rfl, hK, hvt, hxt, ?_⟩, hS'.F ht⟩
    rw [ht]
    exact hR'.moved hW.alike
  generalize hty : y.2.2.2 = ty at hvt hdg hr hq
  match ty, hvt, hdg, hr, hq with
  | none, hvt, hdg, hr, hq =>
    cases hvt
    exact W.vret hx hb hr hq hS'.2.2 hdg
  | some .long, hvt, hdg, hr, hq =>
    obtain ⟨x, rfl⟩ := hvt
    exact W.lret hx hb hr hq hS'.2.2 hdg
  | some .int, hvt, hdg, hr, hq =>
    obtain ⟨x, rfl⟩ := hvt
    exact W.iret hx hb hr hq hS'.2.2 hdg
  | some .boolean, hvt, hdg, hr, hq =>
    obtain ⟨x, rfl, hn⟩ := hvt
    exact W.zret hx hb hr hn hq hS'.2.2 hdg
  | some .byte, hvt, hdg, hr, hq =>
    obtain ⟨x, rfl, hn⟩ := hvt
    exact W.zret hx hb hr hn hq hS'.2.2 hdg
  | some .char, hvt, hdg, hr, hq =>
    obtain ⟨x, rfl, hn⟩ := hvt
    exact W.zret hx hb hr hn hq hS'.2.2 hdg
  | some .short, hvt, hdg, hr, hq =>
    obtain ⟨x, rfl, hn⟩ := hvt
    exact W.zret hx hb hr hn hq hS'.2.2 hdg
  | some .float, hvt, hdg, hr, hq =>
    obtain ⟨x, rfl, hn⟩ := hvt
    exact W.zret hx hb hr hn hq hS'.2.2 hdg
  | some .double, hvt, hdg, hr, hq =>
    obtain ⟨x, rfl, hn⟩ := hvt
    exact W.zret hx hb hr hn hq hS'.2.2 hdg
  | some (.object C), hvt, hdg, hr, hq =>
    rcases hvt with rfl | ⟨k, rfl⟩
    · exact W.aret (v := .null) hx hb hr (Or.inl ⟨C, rfl⟩) (Or.inl rfl) hq hS'.2.2 hdg
    · exact W.aret (v := .ref (E'.2 k).1) hx hb hr (Or.inl ⟨C, rfl⟩) (Or.inr ⟨_, rfl⟩) hq hS'.2.2 hdg
  | some (.array t), hvt, hdg, hr, hq =>
    rcases hvt with rfl | ⟨k, rfl⟩
    · exact W.aret (v := .null) hx hb hr (Or.inr ⟨t, rfl⟩) (Or.inl rfl) hq hS'.2.2 hdg
    · exact W.aret (v := .ref (E'.2 k).1) hx hb hr (Or.inr ⟨t, rfl⟩) (Or.inr ⟨_, rfl⟩) hq hS'.2.2 hdg
/-- references of the memory so far -/
def ab_okv (n : Nat) (v : Value) : Bool := match v with
  | .ref k => decide (k < n)
  | _ => true
theorem ab_cv_xt {kc : Nat} {kk kk' : List (Nat × Nat)} {E E' : ab_En} (h : ab_xt kc kk E kk' E') {v : Value} (hv : ab_okv kk.length v = true) : ab_cv E' v = ab_cv E v := by
  obtain ⟨-, -, h3, h4⟩ := h
  cases v <;> first | rfl | (simp only [ab_cv]; rw [h3]) | skip
  simp only [ab_okv, decide_eq_true_eq] at hv
  simp only [ab_cv]
  rw [h4 _ (Or.inl hv)]
theorem ab_map_xt {kc : Nat} {kk kk' : List (Nat × Nat)} {E E' : ab_En} (h : ab_xt kc kk E kk' E') {st : List Value} (hv : st.all (ab_okv kk.length) = true) : st.map (ab_cv E') = st.map (ab_cv E) :=
  List.map_congr_left (fun v hm => ab_cv_xt h (List.all_eq_true.mp hv v hm))
theorem ab_lc_xt {kc : Nat} {kk kk' : List (Nat × Nat)} {E E' : ab_En} (h : ab_xt kc kk E kk' E') {L : List (Nat × Value)} (hv : L.all (fun q => ab_okv kk.length q.2) = true) : ab_lc E' L = ab_lc E L :=
  List.map_congr_left (fun q hm => by rw [ab_cv_xt h (List.all_eq_true.mp hv q hm)])
section ABK
variable {l : Launch} {X : Option (Nat × (Nat → Int32))} {y : ab_M} {d kc ks : Nat} {K : Option Value → ab_Me → Prop} {pc : Nat} {L : List (Nat × Value)} {st : List Value} {M : ab_Me}
/-- behind a call: what every row of a call shares -/
theorem ab_behind {y' : ab_M} {S : List Value} {kc1 ks1 kc2 ks2 : Nat} {K1 : Option Value → ab_Me → Prop} {p : Program} {e : Env} {R : Room} {s : State} {m : MethodId} {args : Array Value} {below : List Frame} {meth : Method} {c : Code} {E : ab_En} {D : va_G} {A : Nat → Prop} {H : Heap} {locs : List Loc} {cells slots : Nat} {ls : Array Slot} {Q : State → Prop} {a : Array Value}
    (C : ab_Cx l X y d (kc1 + kc2) (ks1 + ks2) M.1 K p e R s m args below meth c E D A cells slots Q) (hR : ab_R E M D A s H) (hS : va_S A s.heap H locs) (hL : lv_has ls y.2.2.1 (ab_lc E L))
    (hst : kc1 = 0 ∨ st.all (ab_okv M.1.length) = true) (hLo : kc1 = 0 ∨ L.all (fun q => ab_okv M.1.length q.2) = true)
    (kk : ∀ (v : Option Value) (M' : ab_Me), K1 v M' → M.1 <+: M'.1 → M'.1.length ≤ M.1.length + kc1 → ab_vt y'.2.2.2 v → ab_G l X y d kc2 ks2 (pc + 3) L (v.toList ++ st) M' K)
    (hrun : va_Run p l e R s m args below meth c H locs cells slots kc1 ks1 (F0 m pc ls S) (st.map (ab_cv E)) (ab_Q E M D H.size kc1 y'.2.2.2 K1 a) (va_A (ab_Wd E M) H.size)) :
    W p l e R s m args below meth c H locs cells slots Q (F0 m pc ls S) := by
  intro T hT Xs
  obtain ⟨v, st₀, t, T', Lx, h0, X', hLx, e1, e2, ⟨⟨v0, E', M', hv, hK1, hvt, hxt, hR'⟩, hz, hk'⟩, stp⟩ := hrun T hT Xs
  cases hv
  rw [h0] at hz hk'
  have hAA : ∀ q, va_A (ab_Wd E M) H.size q → A q := by
    intro q hq
    rcases hq with ⟨k, e0, h⟩ | h
    · exact hR.2.1.2 k (q, e0) h
    · exact C.2.2.2.1 q (Nat.le_trans hS.1 h)
  have hal : t.vm.Alike s.vm := by rw [← e2]; exact X'.warmed.alike.symm
  have hRs : ab_R E' M' D A s T'.heap := by rw [e1]; exact (hR'.moved hal).weaken hAA
  have hS' : va_S A s.heap T'.heap (locs ++ Lx) := ⟨Nat.le_trans hS.1 (by rw [e1]; exact hz), fun q h1 h2 => by rw [e1, hk' q (Nat.lt_of_lt_of_le h1 hS.1) (fun z => h2 (hAA q z))]; exact hS.2.1 q h1 h2, fun q hq => by
      rcases List.mem_append.mp hq with h | h
      · exact hS.2.2 q h
      · exact hAA _ (hLx q h)⟩
  have hms : st.map (ab_cv E') = st.map (ab_cv E) := by
    rcases hst with h | h
    · subst h; rw [(ab_xt_0 hxt).2]
    · exact ab_map_xt hxt h
  have hml : ab_lc E' L = ab_lc E L := by
    rcases hLo with h | h
    · subst h; rw [(ab_xt_0 hxt).2]
    · exact ab_lc_xt hxt h
  have hsx : ab_SX X E' A s := by
    have h := C.2.2.2.2.1
    cases X with
    | none => trivial
    | some q =>
      obtain ⟨n, xs⟩ := q
      show (va_X (E'.1 0) n xs s s.heap ∧ E'.1 0 < s.heap.size ∧ ¬ A (E'.1 0)) ∧ ab_ST E'.1 A s
      rw [hxt.2.2.1]
      exact h
  have hw := kk v0 M' hK1 hxt.1 hxt.2.1 hvt p e R s m args below meth c E' D A T'.heap (locs ++ Lx) (cells + kc1) (slots + ks1) ls Q
    ⟨C.1, C.2.1, C.2.2.1, C.2.2.2.1, hsx, C.2.2.2.2.2.1, ⟨by have := C.2.2.2.2.2.2.1.1; omega, by have := C.2.2.2.2.2.2.1.2; omega⟩, fun E2 M2 H2 locs2 ls2 pc2 v2 hx2 hK2 hv2 hR2 hS2 hd2 => by
      have h := C.2.2.2.2.2.2.2 E2 M2 H2 locs2 ls2 pc2 v2 (ab_xt_trans hxt hx2) hK2 hv2 hR2 hS2 hd2
      rw [Nat.add_assoc, Nat.add_assoc]
      exact h⟩ hRs hS' (by rw [hml]; exact hL)
  obtain ⟨t2, a1, b1⟩ := hw T' rfl X'
  refine ⟨t2, stp t2 ?_, b1⟩
  have : (F0 m (pc + 3) ls ((v0.toList ++ st).map (ab_cv E'))) = { F0 m pc ls S with pc := (F0 m pc ls S).pc + 3, stack := (v0.map (ab_cv E')).toList ++ st.map (ab_cv E) } := by
    rw [List.map_append, hms]
    cases v0 <;> rfl
  rw [← this]
  exact a1
theorem ab_pcB {E : ab_En} {M : ab_Me} {D : va_G} {sz : Nat} {av : List Value} : FrameBlind (va_Pc av (ab_Bp E M D sz)) := fun a U g mk q => by
  obtain ⟨q0, q1, q2, q3⟩ := q
  exact ⟨q0, q1, ab_NW.same (u := U) (U := U.calling g mk a) rfl q2, q3.moved (u := U) (U := U.calling g mk a) (Vm.Alike.refl U.vm)⟩
theorem ab_pcW {E : ab_En} {M : ab_Me} {D : va_G} {A : Nat → Prop} {s : State} {H : Heap} {as : List Value} (hN : ab_NW s) (hR : ab_R E M D A s H) (U : State) (hU : U.heap = H) (hW : s.WarmedH U.vm) : va_Pc (as.map (ab_cv E)) (ab_Bp E M D H.size) (as.map (ab_cv E)).toArray U :=
  ⟨rfl, by rw [hU], hN.warm hW, by rw [hU]; exact (hR.moved hW.alike).weaken (fun _ _ => trivial)⟩
theorem ab_rooms {d' kc1 ks1 : Nat} {R : Room} {maxL : Nat} (h : d' + 1 ≤ R.frames ∧ (d' + 1) * 64 ≤ R.locals) (hm : maxL ≤ 40) : (ab_rm d' kc1 ks1).frames + 1 ≤ R.frames ∧ 8 + (maxL + 11) + (ab_rm d' kc1 ks1).locals ≤ R.locals := by
  refine ⟨h.1, ?_⟩
  show 8 + (maxL + 11) + d' * 64 ≤ R.locals
  have := h.2
  omega
theorem ab_mroom {m : MethodId} {ls : Array Slot} {E : ab_En} {S st : List Value} (h : (st.map fun v => v.category).sum ≤ 8) : 2 * (F0 m pc ls S).monitorRoom + ((st.map (ab_cv E)).map fun v => v.category).sum ≤ 8 := by
  refine lv_room ?_
  rw [List.map_map]
  rw [show ((fun v : Value => v.category) ∘ ab_cv E) = (fun v => v.category) from funext fun v => ab_cv_cat E v]
  exact h
/-- a call of a method on an object -/
theorem ab_callV {i x ci n d' kc1 ks1 kc2 ks2 : Nat} {y' : ab_M} {as S : List Value} {K1 : Option Value → ab_Me → Prop} (hC : ab_C l y' d' kc1 ks1 (.ref x :: as) M K1) (hm : ab_mo y' n) (hin : Cond.instanceMethod y'.1 ∈ ab_T) (hse : Cond.selects y'.1.cls y'.1 y'.1 ∈ ab_T) (hml : ab_ml y.1.cls i y') (hk : M.1[x]? = some (0, ci)) (hci : ci < 6) (hcn : y'.1.cls = ab_cn ci) (hn : as.length = n) (hSt : S = as.reverse ++ .ref x :: st) (hcat : (st.map fun v => v.category).sum ≤ 8)
    (hst : kc1 = 0 ∨ st.all (ab_okv M.1.length) = true) (hLo : kc1 = 0 ∨ L.all (fun q => ab_okv M.1.length q.2) = true) (hd : decode y.2.1 pc = .ok (.invokevirtual i, 3))
    (kk : ∀ (v : Option Value) (M' : ab_Me), K1 v M' → M.1 <+: M'.1 → M'.1.length ≤ M.1.length + kc1 → ab_vt y'.2.2.2 v → ab_G l X y (d' + 1) kc2 ks2 (pc + 3) L (v.toList ++ st) M' K) : ab_G l X y (d' + 1) (kc1 + kc2) (ks1 + ks2) pc L S M K := by
  intro p e R s m args below meth c E D A H locs cells slots ls Q C hR hS hL
  have hts := C.1.2.2.2.2
  have hroom := C.2.1
  obtain ⟨hm1, hm2, hm3, hm4⟩ := hm
  have hpre : PreV s H y'.1.cls (E.2 x).1 (va_Pc ((Value.ref x :: as).map (ab_cv E)) (ab_Bp E M D H.size)) (as.map (ab_cv E)) :=
    ⟨ab_pcB, by rw [hcn]; exact va_recv hR.2.2.1 hR.1 (ab_acl ci hci) (ab_Wd_get hk), fun U hU hW => ab_pcW (as := .ref x :: as) C.2.2.2.2.2.1 hR U hU hW⟩
  have hstk : (F0 m pc ls (S.map (ab_cv E))).stack = (as.map (ab_cv E)).reverse ++ .ref (E.2 x).1 :: st.map (ab_cv E) := by
    show S.map (ab_cv E) = _
    rw [hSt, List.map_append, List.map_reverse]
    rfl
  have hbud : cells + kc1 ≤ R.cells ∧ slots + ks1 ≤ R.slots := ⟨by have := C.2.2.2.2.2.2.1.1; omega, by have := C.2.2.2.2.2.2.1.2; omega⟩
  refine ab_behind (L := L) (y' := y') (K1 := K1) (a := ((Value.ref x :: as).map (ab_cv E)).toArray) C hR hS hL hst hLo kk ?_
  rcases hml with hml | ⟨host, hml⟩
  · exact va_runV C.1 (hC E D H.size) ⟨callB_of n hts (ab_ws_good hm1) rfl rfl rfl (hts _ hm2) (hts _ hml) hm3 (ab_rooms hroom hm4), hts _ hin, hts _ hse⟩ hpre rfl (by rw [List.length_map]; exact hn) hL.1 hstk (ab_mroom hcat) hd hbud
  · exact va_runVN C.1 (hC E D H.size) ⟨va_cnB n hts (ab_ws_good hm1) rfl rfl rfl (C.2.2.2.2.2.1.1 _ hml) (hts _ hm2) hm3 (ab_rooms hroom hm4), hts _ hin, hts _ hse⟩ hpre rfl (by rw [List.length_map]; exact hn) hL.1 hstk (ab_mroom hcat) hd hbud
/-- a call of a static method -/
theorem ab_callS {i n d' kc1 ks1 kc2 ks2 : Nat} {y' : ab_M} {as S : List Value} {K1 : Option Value → ab_Me → Prop} (hC : ab_C l y' d' kc1 ks1 as M K1) (hm : ab_mo y' n) (hin : Cond.static y'.1 ∈ ab_T) (hml : ab_ml y.1.cls i y') (hn : as.length = n) (hSt : S = as.reverse ++ st) (hcat : (st.map fun v => v.category).sum ≤ 8)
    (hst : kc1 = 0 ∨ st.all (ab_okv M.1.length) = true) (hLo : kc1 = 0 ∨ L.all (fun q => ab_okv M.1.length q.2) = true) (hd : decode y.2.1 pc = .ok (.invokestatic i, 3))
    (kk : ∀ (v : Option Value) (M' : ab_Me), K1 v M' → M.1 <+: M'.1 → M'.1.length ≤ M.1.length + kc1 → ab_vt y'.2.2.2 v → ab_G l X y (d' + 1) kc2 ks2 (pc + 3) L (v.toList ++ st) M' K) : ab_G l X y (d' + 1) (kc1 + kc2) (ks1 + ks2) pc L S M K := by
  intro p e R s m args below meth c E D A H locs cells slots ls Q C hR hS hL
  have hts := C.1.2.2.2.2
  have hroom := C.2.1
  obtain ⟨hm1, hm2, hm3, hm4⟩ := hm
  have hpre : PreS s H (va_Pc (as.map (ab_cv E)) (ab_Bp E M D H.size)) (as.map (ab_cv E)) :=
    ⟨ab_pcB, fun U hU hW => ab_pcW (as := as) C.2.2.2.2.2.1 hR U hU hW⟩
  have hstk : (F0 m pc ls (S.map (ab_cv E))).stack = (as.map (ab_cv E)).reverse ++ st.map (ab_cv E) := by
    show S.map (ab_cv E) = _
    rw [hSt, List.map_append, List.map_reverse]
  have hbud : cells + kc1 ≤ R.cells ∧ slots + ks1 ≤ R.slots := ⟨by have := C.2.2.2.2.2.2.1.1; omega, by have := C.2.2.2.2.2.2.1.2; omega⟩
  refine ab_behind (L := L) (y' := y') (K1 := K1) (a := (as.map (ab_cv E)).toArray) C hR hS hL hst hLo kk ?_
  rcases hml with hml | ⟨host, hml⟩
  · exact va_runS C.1 (hC E D H.size) ⟨callB_of n hts (ab_ws_good hm1) rfl rfl rfl (hts _ hm2) (hts _ hml) hm3 (ab_rooms hroom hm4), hts _ hin⟩ hpre rfl (by rw [List.length_map]; exact hn) hL.1 hstk (ab_mroom hcat) hd hbud
  · exact va_runSN C.1 (hC E D H.size) ⟨va_cnB n hts (ab_ws_good hm1) rfl rfl rfl (C.2.2.2.2.2.1.1 _ hml) (hts _ hm2) hm3 (ab_rooms hroom hm4), hts _ hin, trivial⟩ hpre rfl (by rw [List.length_map]; exact hn) hL.1 hstk (ab_mroom hcat) hd hbud
/-- a call of a constructor -/
theorem ab_callI {i x n d' kc1 ks1 kc2 ks2 : Nat} {y' : ab_M} {as S : List Value} {K1 : Option Value → ab_Me → Prop} (hC : ab_C l y' d' kc1 ks1 (.ref x :: as) M K1) (hm : ab_mo y' n) (hin : Cond.instanceMethod y'.1 ∈ ab_T) (hini : y'.1.name = "<init>") (hret : y'.2.2.2 = none) (hml : ab_ml y.1.cls i y') (hn : as.length = n) (hSt : S = as.reverse ++ .ref x :: st) (hcat : (st.map fun v => v.category).sum ≤ 8)
    (hst : kc1 = 0 ∨ st.all (ab_okv M.1.length) = true) (hLo : kc1 = 0 ∨ L.all (fun q => ab_okv M.1.length q.2) = true) (hd : decode y.2.1 pc = .ok (.invokespecial i, 3))
    (kk : ∀ (v : Option Value) (M' : ab_Me), K1 v M' → M.1 <+: M'.1 → M'.1.length ≤ M.1.length + kc1 → ab_vt y'.2.2.2 v → ab_G l X y (d' + 1) kc2 ks2 (pc + 3) L (v.toList ++ st) M' K) : ab_G l X y (d' + 1) (kc1 + kc2) (ks1 + ks2) pc L S M K := by
  intro p e R s m args below meth c E D A H locs cells slots ls Q C hR hS hL
  have hts := C.1.2.2.2.2
  have hroom := C.2.1
  obtain ⟨hm1, hm2, hm3, hm4⟩ := hm
  obtain ⟨y1, y2, y3, y4⟩ := y'
  dsimp only at hret
  subst hret
  have hpre : PreS s H (va_Pc ((Value.ref x :: as).map (ab_cv E)) (ab_Bp E M D H.size)) (.ref (E.2 x).1 :: as.map (ab_cv E)) :=
    ⟨ab_pcB, fun U hU hW => ab_pcW (as := .ref x :: as) C.2.2.2.2.2.1 hR U hU hW⟩
  have hstk : (F0 m pc ls (S.map (ab_cv E))).stack = (as.map (ab_cv E)).reverse ++ .ref (E.2 x).1 :: st.map (ab_cv E) := by
    show S.map (ab_cv E) = _
    rw [hSt, List.map_append, List.map_reverse]
    rfl
  have hbud : cells + kc1 ≤ R.cells ∧ slots + ks1 ≤ R.slots := ⟨by have := C.2.2.2.2.2.2.1.1; omega, by have := C.2.2.2.2.2.2.1.2; omega⟩
  refine ab_behind (L := L) (y' := (y1, y2, y3, none)) (K1 := K1) (a := ((Value.ref x :: as).map (ab_cv E)).toArray) C hR hS hL hst hLo kk ?_
  rcases hml with hml | ⟨host, hml⟩
  · exact va_runI C.1 (hC E D H.size) ⟨callB_of n hts (ab_ws_good hm1) rfl rfl rfl (hts _ hm2) (hts _ hml) hm3 (ab_rooms hroom hm4), hini, hts _ hin⟩ hpre rfl (by rw [List.length_map]; exact hn) hL.1 hstk (ab_mroom hcat) hd hbud
  · exact va_runIN C.1 (hC E D H.size) ⟨va_cnB n hts (ab_ws_good hm1) rfl rfl rfl (C.2.2.2.2.2.1.1 _ hml) (hts _ hm2) hm3 (ab_rooms hroom hm4), hini, hts _ hin⟩ hpre rfl (by rw [List.length_map]; exact hn) hL.1 hstk (ab_mroom hcat) hd hbud
/-- Object() -/
theorem ab_objInit {i x d' : Nat} (hw1 : Cond.methodLink y.1.cls i Lib.objectInit ∈ ab_T) (hw2 : Cond.instanceMethod Lib.objectInit ∈ ab_T) (hw3 : Cond.code Lib.objectInit ⟨#[0xb1]⟩ 1 none ∈ ab_T) (hcat : (st.map fun v => v.category).sum ≤ 8) (hd : decode y.2.1 pc = .ok (.invokespecial i, 3)) (k : ab_G l X y (d' + 1) kc ks (pc + 3) L st M K) : ab_G l X y (d' + 1) kc ks pc L (.ref x :: st) M K := by
  intro p e R s m args below meth c E D A H locs cells slots ls Q C hR hS hL
  have hts := C.1.2.2.2.2
  have hroom := C.2.1
  refine W.objInit C.1.1 C.1.2.1 C.1.2.2.2.1 (hts _ hw1) (hts _ hw2) (hts _ hw3) rfl (by rw [C.1.2.2.1]; exact hL.1) rfl hd (by omega) ?_ (k p e R s m args below meth c E D A H locs cells slots ls Q C hR hS hL)
  have h1 := ab_mroom (m := m) (ls := ls) (pc := pc) (E := E) (S := (.ref (E.2 x).1 :: st.map (ab_cv E))) hcat
  have h2 : (d' + 1) * 64 ≤ R.locals := hroom.2
  exact Nat.le_trans (Nat.add_le_add_right h1 12) (by omega)
theorem ab_len0 {a b : List (Nat × Nat)} (h : a <+: b) (h2 : b.length ≤ a.length + 0) : b = a := (h.eq_of_length (by have := h.length_le; omega)).symm
/-! calls that make nothing -/
theorem ab_cV {i x ci n d' : Nat} {y' : ab_M} {as S : List Value} {K1 : Option Value → ab_Me → Prop} (hC : ab_C l y' d' 0 0 (.ref x :: as) M K1) (hm : ab_mo y' n) (hin : Cond.instanceMethod y'.1 ∈ ab_T ∧ Cond.selects y'.1.cls y'.1 y'.1 ∈ ab_T) (hml : ab_ml y.1.cls i y') (hk : M.1[x]? = some (0, ci)) (hci : ci < 6) (hcn : y'.1.cls = ab_cn ci) (hn : as.length = n) (hSt : S = as.reverse ++ .ref x :: st) (hcat : (st.map fun v => v.category).sum ≤ 8) (hd : decode y.2.1 pc = .ok (.invokevirtual i, 3))
    (kk : ∀ (v : Option Value) (M' : ab_Me), K1 v M' → M'.1 = M.1 → ab_vt y'.2.2.2 v → ab_G l X y (d' + 1) kc ks (pc + 3) L (v.toList ++ st) M' K) : ab_G l X y (d' + 1) kc ks pc L S M K := by
  have h := ab_callV (X := X) (L := L) (pc := pc) (kc2 := kc) (ks2 := ks) (K := K) hC hm hin.1 hin.2 hml hk hci hcn hn hSt hcat (Or.inl rfl) (Or.inl rfl) hd (fun v M' h1 h2 h3 h4 => kk v M' h1 (ab_len0 h2 h3) h4)
  rwa [Nat.zero_add, Nat.zero_add] at h
theorem ab_cS {i n d' : Nat} {y' : ab_M} {as S : List Value} {K1 : Option Value → ab_Me → Prop} (hC : ab_C l y' d' 0 0 as M K1) (hm : ab_mo y' n) (hin : Cond.static y'.1 ∈ ab_T) (hml : ab_ml y.1.cls i y') (hn : as.length = n) (hSt : S = as.reverse ++ st) (hcat : (st.map fun v => v.category).sum ≤ 8) (hd : decode y.2.1 pc = .ok (.invokestatic i, 3))
    (kk : ∀ (v : Option Value) (M' : ab_Me), K1 v M' → M'.1 = M.1 → ab_vt y'.2.2.2 v → ab_G l X y (d' + 1) kc ks (pc + 3) L (v.toList ++ st) M' K) : ab_G l X y (d' + 1) kc ks pc L S M K := by
  have h := ab_callS (X := X) (L := L) (pc := pc) (kc2 := kc) (ks2 := ks) (K := K) hC hm hin hml hn hSt hcat (Or.inl rfl) (Or.inl rfl) hd (fun v M' h1 h2 h3 h4 => kk v M' h1 (ab_len0 h2 h3) h4)
  rwa [Nat.zero_add, Nat.zero_add] at h
theorem ab_cI {i x n d' : Nat} {y' : ab_M} {as S : List Value} {K1 : Option Value → ab_Me → Prop} (hC : ab_C l y' d' 0 0 (.ref x :: as) M K1) (hm : ab_mo y' n) (hin : Cond.instanceMethod y'.1 ∈ ab_T) (hini : y'.1.name = "<init>") (hret : y'.2.2.2 = none) (hml : ab_ml y.1.cls i y') (hn : as.length = n) (hSt : S = as.reverse ++ .ref x :: st) (hcat : (st.map fun v => v.category).sum ≤ 8) (hd : decode y.2.1 pc = .ok (.invokespecial i, 3))
    (kk : ∀ (v : Option Value) (M' : ab_Me), K1 v M' → M'.1 = M.1 → ab_vt y'.2.2.2 v → ab_G l X y (d' + 1) kc ks (pc + 3) L (v.toList ++ st) M' K) : ab_G l X y (d' + 1) kc ks pc L S M K := by
  have h := ab_callI (X := X) (L := L) (pc := pc) (kc2 := kc) (ks2 := ks) (K := K) hC hm hin hini hret hml hn hSt hcat (Or.inl rfl) (Or.inl rfl) hd (fun v M' h1 h2 h3 h4 => kk v M' h1 (ab_len0 h2 h3) h4)
  rwa [Nat.zero_add, Nat.zero_add] at h
/-- a contract says less -/
theorem ab_C.mono {l : Launch} {y : ab_M} {d kc ks : Nat} {as : List Value} {M : ab_Me} {K K' : Option Value → ab_Me → Prop} (h : ab_C l y d kc ks as M K) (hK : ∀ v M', K v M' → K' v M') : ab_C l y d kc ks as M K' := by
  intro E D sz
  have h1 := h E D sz
  intro p e a1 a2 a3 s m args below a4 a5 a6 a7
  obtain ⟨t, o, b1, b2, b3, b4⟩ := h1 p e a1 a2 a3 s m args below a4 a5 a6 a7
  refine ⟨t, o, b1, b2, b3, ?_⟩
  obtain ⟨⟨⟨v, E', M', c1, c2, c3⟩, c4⟩, c5⟩ := b4
  exact ⟨⟨⟨v, E', M', c1, hK v M' c2, c3⟩, c4⟩, c5⟩
end ABK
