/-! long[8][60]: a row of rows is made -/
section MWX
variable {E : CtlPost} {e : Env} {d : Bool} {acts : List Action} {s : State}
/-- a row of 0s of a class of rows is made -/
theorem mw_new {cA comp : ClassId} {k : Class} {ty : FieldType} {n : Nat} {v : Value} (hk : s.vm.classes[cA]? = some k) (hkd : k.kind = .array comp ty) (h1 : ¬ n > e.platform.arrayLengthLimit) (h2 : ¬ n * componentBytes ty > e.platform.maxHeapBytes) (hf : fits ty v = true) (hdf : v.isDefault = true) {Q : Addr → Pre} (hc : s.heap.size < e.platform.maxCells) (hs : s.slotsUsed + n ≤ e.platform.maxSlots) (hQ : Q s.heap.size d acts (s.pushCell { cls := cA, slots := Array.replicate n v, vm := .none })) : wp (Jvm.newArray cA n v) Q E e d acts s := by
  have hfs : ∀ i w, (Array.replicate n v)[i]? = some w → s.fitsSlot cA .none i w = true := by
    intro i w hw
    rw [Array.getElem?_replicate] at hw
    split at hw
    · cases hw
      simp [State.fitsSlot, State.slotType?, hk, hkd, hf]
    · cases hw
  have hall : ((Array.replicate n v).all (·.isDefault)) = true := by
    rw [Array.all_replicate]
    split
    · rfl
    · exact hdf
  have hac : allocActs (Array.replicate n v) s.heap.size acts = acts := by
    unfold allocActs
    rw [if_pos hall]
  simp only [Jvm.newArray, Jvm.arrayFits, wp_bind', W.ask, W.ite, h1, if_false, wp_pure', W.theClass, hk, hkd, h2, W.alloc, W.stop, Option.some.injEq, exists_eq_left', Array.size_replicate, hac]
  rw [if_neg (by omega)]
  exact ⟨hc, hs, hfs, hQ⟩
end MWX
/-- the outer row when so many of its places are filled -/
def mw_o (cA : ClassId) (a n : Nat) : Cell := arrV cA 8 (fun j => if j < n then .ref (a + 1 + j) else .null)
theorem mw_o_set (cA : ClassId) (a n : Nat) : (mw_o cA a n).setSlot n (.ref (a + 1 + n)) = mw_o cA a (n + 1) := by
  unfold mw_o arrV Cell.setSlot
  congr 1
  apply Array.ext_getElem?
  intro i
  rw [Array.getElem?_setIfInBounds]
  simp only [Array.size_ofFn, Array.getElem?_ofFn]
  by_cases h : n = i
  · subst h
    rw [if_pos rfl]
    split
    · simp
    · rfl
  · rw [if_neg h]
    split
    · have : (i < n) = (i < n + 1) := propext ⟨fun z => by omega, fun z => by omega⟩
      simp only [this]
    · rfl
section MWS
variable {p : Program} {l : Launch} {e : Env} {R : Room} {s : State} {m : MethodId} {args : Array Value} {below : List Frame} {meth : Method} {c : Code} {H : Heap} {locs : List Loc} {cells slots : Nat} {Q : State → Prop}
variable {cc : ByteArray} {pc : Nat} {ls : Array Slot} {rest : List Value}
/-- what stands when n inner rows are made: u is the state beneath the running frame -/
def mw_I (p : Program) (l : Launch) (e : Env) (R : Room) (s : State) (m : MethodId) (args : Array Value) (below : List Frame) (meth : Method) (c : Code) (locs : List Loc) (cells slots : Nat) (vm : Vm) (H : Heap) (us : Nat) (cA comp : ClassId) (n : Nat) (u : State) : Prop :=
  Stand p l e R s m args below meth c u (locs ++ (List.range n).map fun j => ⟨H.size, j⟩) (cells + 1 + n) (slots + 8 + 60 * n) ∧ u.vm = vm ∧ u.slotsUsed = us + 8 + 60 * n ∧ u.heap.size = H.size + 1 + n ∧ u.heap[H.size]? = some (mw_o cA H.size n) ∧ (∀ q, q < H.size → u.heap[q]? = H[q]?) ∧ ∀ j, j < n → u.heap[H.size + 1 + j]? = some (arrV comp 60 (fun _ => .long 0))
theorem mw_rep (cA : ClassId) (N : Nat) (v : Value) : ({ cls := cA, slots := Array.replicate N v, vm := .none } : Cell) = arrV cA N (fun _ => v) := by
  unfold arrV
  congr 1
  apply Array.ext_getElem?
  intro i
  rw [Array.getElem?_replicate, Array.getElem?_ofFn]
  split <;> rfl
theorem mw_I0 {T : State} {vm : Vm} {cA comp : ClassId} (X : Stand p l e R s m args below meth c (T.setVm vm) locs cells slots) (hT : T.heap = H) : mw_I p l e R s m args below meth c locs cells slots vm H T.slotsUsed cA comp 0 ((T.setVm vm).pushCell { cls := cA, slots := Array.replicate 8 .null, vm := .none }) := by
  subst hT
  have h := X.pushed { cls := cA, slots := Array.replicate 8 .null, vm := .none }
  rw [show ({ cls := cA, slots := Array.replicate 8 .null, vm := .none } : Cell).slots.size = 8 from by simp] at h
  refine ⟨by simpa using h, rfl, by simp, by simp, ?_, fun q hq => State.heap_pushCell_of_lt _ _ hq, fun j hj => absurd hj (Nat.not_lt_zero j)⟩
  have e1 := State.heap_pushCell_size (T.setVm vm) ({ cls := cA, slots := Array.replicate 8 .null, vm := .none } : Cell)
  rw [show (T.setVm vm).heap.size = T.heap.size from rfl] at e1
  rw [e1, mw_rep]
  rfl
theorem mw_Is {vm : Vm} {us : Nat} {cA comp : ClassId} {n : Nat} {u : State} (hn : n < 8) (h : mw_I p l e R s m args below meth c locs cells slots vm H us cA comp n u) : mw_I p l e R s m args below meth c locs cells slots vm H us cA comp (n + 1) ((u.pushCell { cls := comp, slots := Array.replicate 60 (.long 0), vm := .none }).setCell H.size ((mw_o cA H.size n).setSlot n (.ref u.heap.size))) := by
  obtain ⟨X, hv, hu, hsz, ho, hold, hin⟩ := h
  have hlt : H.size < u.heap.size := by omega
  have hc0 : (u.pushCell { cls := comp, slots := Array.replicate 60 (.long 0), vm := .none }).heap[H.size]? = some (mw_o cA H.size n) := by
    rw [State.heap_pushCell_of_lt (h := hlt)]
    exact ho
  have hX := (X.pushed { cls := comp, slots := Array.replicate 60 (.long 0), vm := .none }).stored hc0 n (.ref u.heap.size)
  rw [show ({ cls := comp, slots := Array.replicate 60 (.long 0), vm := .none } : Cell).slots.size = 60 from by simp] at hX
  refine ⟨?_, by show u.vm = vm; exact hv, ?_, ?_, ?_, fun q hq => ?_, fun j hj => ?_⟩
  · have e2 : (locs ++ (List.range (n + 1)).map fun j => (⟨H.size, j⟩ : Loc)) = (locs ++ (List.range n).map fun j => (⟨H.size, j⟩ : Loc)) ++ [⟨H.size, n⟩] := by
      rw [List.range_succ, List.map_append, List.append_assoc]
      rfl
    rw [e2, show cells + 1 + (n + 1) = cells + 1 + n + 1 by omega, show slots + 8 + 60 * (n + 1) = slots + 8 + 60 * n + 60 by omega]
    exact hX
  · simp [hu]
    omega
  · simp [State.setCell, hsz]
    omega
  · rw [State.heap_setCell_self hc0, hsz, mw_o_set]
  · rw [State.heap_setCell_other (Nat.ne_of_gt hq), State.heap_pushCell_of_lt (h := Nat.lt_trans hq hlt)]
    exact hold q hq
  · rw [State.heap_setCell_other (show H.size ≠ H.size + 1 + j by omega)]
    by_cases e1 : j = n
    · rw [e1, ← hsz, State.heap_pushCell_size, mw_rep]
    · rw [State.heap_pushCell_of_lt (h := show H.size + 1 + j < u.heap.size by omega)]
      exact hin j (by omega)
/-- the state beneath when n inner rows are made -/
def mw_u (S0 : State) (cA comp : ClassId) : Nat → State
  | 0 => S0.pushCell { cls := cA, slots := Array.replicate 8 .null, vm := .none }
  | n + 1 => ((mw_u S0 cA comp n).pushCell { cls := comp, slots := Array.replicate 60 (.long 0), vm := .none }).setCell S0.heap.size ((mw_o cA S0.heap.size n).setSlot n (.ref (mw_u S0 cA comp n).heap.size))
theorem mw_u_I {T : State} {vm : Vm} {cA comp : ClassId} (X : Stand p l e R s m args below meth c (T.setVm vm) locs cells slots) : ∀ n, n ≤ 8 → mw_I p l e R s m args below meth c locs cells slots vm T.heap T.slotsUsed cA comp n (mw_u (T.setVm vm) cA comp n)
  | 0, _ => mw_I0 X rfl
  | n + 1, h => mw_Is (by omega) (mw_u_I X n (by omega))
theorem mw_u_top (S0 : State) (f : JFrame) (cA comp : ClassId) : ∀ n, mw_u (S0.setTop f) cA comp n = (mw_u S0 cA comp n).setTop f
  | 0 => by simp only [mw_u, State.pushCell_setTop]
  | n + 1 => by simp only [mw_u, mw_u_top S0 f cA comp n, State.heap_setTop, State.pushCell_setTop, State.setCell_setTop]
theorem mw_u_vm (S0 : State) (cA comp : ClassId) : ∀ n, (mw_u S0 cA comp n).vm = S0.vm ∧ (mw_u S0 cA comp n).heap.size = S0.heap.size + 1 + n ∧ (mw_u S0 cA comp n).slotsUsed = S0.slotsUsed + 8 + 60 * n ∧ (n ≤ 8 → (mw_u S0 cA comp n).heap[S0.heap.size]? = some (mw_o cA S0.heap.size n))
  | 0 => ⟨rfl, by simp [mw_u], by simp [mw_u], fun _ => by
    show (S0.pushCell _).heap[S0.heap.size]? = _
    rw [State.heap_pushCell_size, mw_rep]
    rfl⟩
  | n + 1 => by
    obtain ⟨h1, h2, h3, h4⟩ := mw_u_vm S0 cA comp n
    refine ⟨by simp [mw_u, h1], by simp [mw_u, State.setCell, h2]; omega, by simp [mw_u, h3]; omega, fun hn => ?_⟩
    have hc0 : ((mw_u S0 cA comp n).pushCell { cls := comp, slots := Array.replicate 60 (.long 0), vm := .none }).heap[S0.heap.size]? = some (mw_o cA S0.heap.size n) := by
      rw [State.heap_pushCell_of_lt (h := show S0.heap.size < (mw_u S0 cA comp n).heap.size by omega)]
      exact h4 (by omega)
    show (((mw_u S0 cA comp n).pushCell _).setCell S0.heap.size _).heap[S0.heap.size]? = _
    rw [State.heap_setCell_self hc0, h2, mw_o_set]
section MWM
variable {E : CtlPost} {d : Bool} {acts : List Action} {S0 : State}
theorem mw_make {cA comp cc0 : ClassId} {k kc : Class} (hk : S0.vm.classes[cA]? = some k) (hkd : k.kind = .array comp (.array .long)) (hkc : S0.vm.classes[comp]? = some kc) (hkcd : kc.kind = .array cc0 .long) (hl1 : ¬ 8 > e.platform.arrayLengthLimit) (hh1 : ¬ 8 * componentBytes (.array .long) > e.platform.maxHeapBytes) (hl2 : ¬ 60 > e.platform.arrayLengthLimit) (hh2 : ¬ 60 * componentBytes .long > e.platform.maxHeapBytes) (hc : S0.heap.size + 9 ≤ e.platform.maxCells) (hs : S0.slotsUsed + 488 ≤ e.platform.maxSlots) {Q : Addr → Pre} (hq : ∀ d' acts', Q S0.heap.size d' acts' (mw_u S0 cA comp 8)) : wp (multianewarray.make cA [8, 60]) Q E e d acts S0 := by
  have t8 : (8 : Int32).toNatClampNeg = 8 := by decide
  have t60 : (60 : Int32).toNatClampNeg = 60 := by decide
  have n8 : ¬ (8 : Int32) < 0 := by decide
  have n60 : ¬ (60 : Int32) < 0 := by decide
  have z8 : ((8 : Int32) == 0) = false := by decide
  rw [multianewarray.make]
  simp only [wp_bind', W.ite, n8, if_false, wp_pure', W.theClass, hk, hkd, Option.some.injEq, exists_eq_left', t8, z8]
  refine mw_new hk hkd hl1 hh1 rfl rfl (by omega) (by omega) ?_
  simp only [Bool.false_eq_true, if_false, wp_bind', wp_pure']
  rw [Std.Legacy.Range.forIn_eq_forIn_range']
  have hsz : ([:8] : Std.Legacy.Range).size = 8 := by simp [Std.Legacy.Range.size]
  rw [hsz]
  show wp (forIn (List.range' 0 8 1) PUnit.unit _) _ E e d acts _
  refine wp_forIn_inv (fun rest s' => ∃ i, i ≤ 8 ∧ rest = List.range' i (8 - i) ∧ s' = mw_u S0 cA comp i) _ _ ⟨0, by omega, rfl, rfl⟩ ?_ ?_
  · rintro x rest s' d' acts' Q' ⟨i, hi, hl, rfl⟩ hn
    by_cases h8 : i = 8
    · subst h8
      cases hl
    · rw [show 8 - i = (8 - (i + 1)) + 1 by omega, List.range'_succ] at hl
      obtain ⟨rfl, rfl⟩ := List.cons.inj hl
      obtain ⟨f1, f2, f3, f4⟩ := mw_u_vm S0 cA comp x
      simp only [wp_bind']
      rw [multianewarray.make]
      simp only [wp_bind', W.ite, n60, if_false, wp_pure', W.theClass, f1, hkc, hkcd, Option.some.injEq, exists_eq_left', t60]
      refine mw_new (by rw [f1]; exact hkc) hkcd hl2 hh2 rfl rfl (by omega) (by omega) ?_
      simp only [wp_bind', W.writeLoc, wp_pure']
      refine ⟨mw_o cA S0.heap.size x, by rw [State.heap_pushCell_of_lt (h := show S0.heap.size < (mw_u S0 cA comp x).heap.size by omega)]; exact f4 hi, by simp [mw_o, arrV], by simp [mw_o, arrV]; omega, ?_, hn _ _ _ ⟨x + 1, by omega, rfl, rfl⟩⟩
      simp [mw_o, arrV, State.fitsSlot, State.slotType?, f1, hk, hkd, fits]
  · rintro s' d' acts' ⟨i, hi, hl, rfl⟩
    have h8 : i = 8 := by
      by_cases h8 : i = 8
      · exact h8
      · rw [show 8 - i = (8 - (i + 1)) + 1 by omega, List.range'_succ] at hl
        cases hl
    subst h8
    exact hq _ _
end MWM
theorem W_multi (hexec : p.tables.exec = Jvm.exec) (hb : c.code = cc) {own : String} {index : Nat} (hown : s.vm.findClass own = some m.cls) (hcl : (Cond.classLink own index "[[J").before args s = true) (hov : (Cond.arrayOver (.array .long)).before args s = true) (har : (Cond.arrayClass .long).before args s = true) (hdg : decode cc pc = .ok (.multianewarray index 2, 4)) (hcells : cells + 9 ≤ R.cells) (hslots : slots + 488 ≤ R.slots)
    (kk : ∀ (cA comp : ClassId) (H1 : Heap), H1.size = H.size + 9 → (∀ q, q < H.size → H1[q]? = H[q]?) → H1[H.size]? = some (mw_o cA H.size 8) → (∀ j, j < 8 → H1[H.size + 1 + j]? = some (arrV comp 60 (fun _ => .long 0))) → ArrOfT s cA (.array .long) ∧ va_RA s cA (.array .long) → ArrOfT s comp .long ∧ va_RA s comp .long →
      W p l e R s m args below meth c H1 (locs ++ (List.range 8).map fun j => ⟨H.size, j⟩) (cells + 9) (slots + 488) Q (F0 m (pc + 4) ls (.ref H.size :: rest))) : W p l e R s m args below meth c H locs cells slots Q (F0 m pc ls (.int 60 :: .int 8 :: rest)) := by
  intro T hT X
  subst hb
  have hpl : e.platform.magicAccessors = ({} : Platform).magicAccessors := by rw [X.admits.platform]
  obtain ⟨comp, cA, kA, hcomp, hidx, hkA, hkdA, hnmA⟩ := arrayOverA_spec hov
  obtain ⟨comp', kC, c2, hcomp', hkC, hkdC⟩ := Cond.arrayClass_spec har
  have ec : comp' = comp := Option.some.inj (hcomp'.symm.trans hcomp)
  subst ec
  obtain ⟨c0, hfc0, hcl0⟩ := Cond.classLink_spec hown hcl e.platform hpl
  have ea : c0 = cA := Option.some.inj (hfc0.symm.trans hnmA)
  subst ea
  obtain ⟨hg1, hw1, hr1⟩ := State.classEntry (e := e) X.warmed hcl0
  generalize hvm : T.vm.noted m.cls index (.cls c0) = vm1 at hg1 hw1 hr1
  have hal : s.vm.Alike vm1 := hw1.alike
  obtain ⟨kA1, hkA1, heA⟩ := hal.2.2 _ _ hkA
  obtain ⟨kC1, hkC1, heC⟩ := hal.2.2 _ _ hkC
  have hkdA1 : kA1.kind = .array comp' (.array .long) := by rw [heA]; exact hkdA
  have hkdC1 : kC1.kind = .array c2 .long := by rw [heC]; exact hkdC
  have X1 := X.noted hw1
  have I0 := mw_I0 (cA := c0) (comp := comp') X1 hT
  obtain ⟨hrm1, hrm2⟩ := X.roomAbove hcells hslots
  have hl1 : ¬ 8 > e.platform.arrayLengthLimit := by rw [Launch.admits_arrayLengthLimit X.admits]; omega
  have hl2 : ¬ 60 > e.platform.arrayLengthLimit := by rw [Launch.admits_arrayLengthLimit X.admits]; omega
  have hh1 : ¬ 8 * componentBytes (.array .long) > e.platform.maxHeapBytes := by
    rw [Launch.admits_maxHeapBytes X.admits]
    show ¬ 8 * 4 > 536870912
    omega
  have hh2 : ¬ 60 * componentBytes .long > e.platform.maxHeapBytes := by
    rw [Launch.admits_maxHeapBytes X.admits]
    show ¬ 60 * 8 > 536870912
    omega
  have hArA : ArrOfT s c0 (.array .long) := fun N z => ⟨fun k h => (by cases h), kA, hkA, comp', hkdA⟩
  have hArC : ArrOfT s comp' .long := fun N z => ⟨fun k h => (by cases h), kC, hkC, c2, hkdC⟩
  have hI := mw_u_I (cA := c0) (comp := comp') X1 8 (Nat.le_refl _)
  obtain ⟨XU, hv, huu, hsz, ho, hold, hin⟩ := hI
  subst hT
  obtain ⟨t, a1, b1⟩ := kk c0 comp' _ (by omega) hold ho hin ⟨hArA, hnmA⟩ ⟨hArC, hcomp⟩ _ rfl XU
  refine ⟨t, ?_, b1⟩
  jvm_step X.here [hexec, hdg]
  simp only [multianewarray.sem, wp_bind', W.resolveClassAt_links (t := T.setTop (F0 m pc ls (.int 60 :: .int 8 :: rest))) (mm := m) (State.method?_setTop (F0 m pc ls (.int 60 :: .int 8 :: rest)) X.here.top) hg1]
  rw [W.popN, if_neg (by decide)]
  refine ⟨F0 m pc ls (.int 60 :: .int 8 :: rest), State.topJava?_setTop' (s := T.setVm vm1) _ X.here.top, [.int 8, .int 60], rest, rfl, rfl, ?_⟩
  simp only [List.mapM_cons, List.mapM_nil, wp_bind', wp_pure']
  have eS : ∀ f1 f2 : JFrame, ((T.setTop f1).setVm vm1).setTop f2 = (T.setVm vm1).setTop f2 := fun f1 f2 => by
    show ((T.setVm vm1).setTop f1).setTop f2 = _
    rw [State.setTop_setTop]
  rw [eS]
  refine mw_make (k := kA1) (kc := kC1) (cc0 := c2) hkA1 hkdA1 hkC1 hkdC1 hl1 hh1 hl2 hh2 (by show T.heap.size + 9 ≤ _; exact hrm1) (by show T.slotsUsed + 488 ≤ _; exact hrm2) (fun d' acts' => ?_)
  rw [mw_u_top]
  simp only [wp_bind', W.mark, W.pushRef, State.topJava?_setTop' _ XU.here.top, Option.some.injEq, exists_eq_left', State.setTop_setTop, State.heap_setTop]
  intro acts
  simp [jvm, XU.here.top]
  exact a1
end MWS
