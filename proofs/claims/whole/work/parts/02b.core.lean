/-- a method: its name, its bytes, its locals, what it returns -/
abbrev ab_M : Type := MethodName × ByteArray × Nat × Option FieldType
def ab_ws (y : ab_M) : List Cond := .code y.1 y.2.1 y.2.2.1 y.2.2.2 :: ab_T
/-- places to addresses (and an array's class); what .float n stands for -/
abbrev ab_En : Type := (UInt32 → Nat) × (Nat → Nat × ClassId)
/-- the cells' kinds (0, class); (1, n) ints; (2, n) longs; (3, n) rows of longs; (4, n) rules; then ints, longs, references by place and index -/
abbrev ab_Me : Type := List (Nat × Nat) × (Nat → Nat → Int32) × (Nat → Nat → Int64) × (Nat → Nat → Option Nat)
def ab_cv (E : ab_En) : Value → Value
  | .ref k => .ref (E.2 k).1
  | .float n => .ref (E.1 n)
  | .int x => .int x
  | .long x => .long x
  | .double x => .double x
  | .null => .null
  | .retAddr x => .retAddr x
theorem ab_cv_cat (E : ab_En) (v : Value) : (ab_cv E v).category = v.category := by cases v <;> rfl
def ab_rf (E : ab_En) (r : Option Nat) : Option Nat := r.map fun k => (E.2 k).1
def ab_fv (E : ab_En) (ty : FieldType) (i : Int32) (r : Option Nat) : Value := match ty with
  | .int => .int i
  | .boolean => .int i
  | _ => va_rf (ab_rf E r)
def ab_ob (E : ab_En) (M : ab_Me) (k ci : Nat) : List Value := (List.range (ab_nf ci)).map fun j => ab_fv E (ab_ft ci j) (M.2.1 k j) (M.2.2.2 k j)
def ab_ce (E : ab_En) (M : ab_Me) (k : Nat) (kd : Nat × Nat) : va_E := match kd with
  | (0, ci) => .inr (ci, ab_ob E M k ci)
  | (1, n) => .inl ((E.2 k).2, n, .inl (M.2.1 k))
  | (2, n) => .inl ((E.2 k).2, n, .inr (.inl (M.2.2.1 k)))
  | (_, n) => .inl ((E.2 k).2, n, .inr (.inr (.inr (.inr fun i => ab_rf E (M.2.2.2 k i)))))
def ab_Wd (E : ab_En) (M : ab_Me) : va_W := (List.range M.1.length).map fun k => ((E.2 k).1, ab_ce E M k (M.1.getD k (0, 0)))
theorem ab_Wd_get {E : ab_En} {M : ab_Me} {k : Nat} {kd : Nat × Nat} (h : M.1[k]? = some kd) : (ab_Wd E M)[k]? = some ((E.2 k).1, ab_ce E M k kd) := by
  have hl : k < M.1.length := (List.getElem?_eq_some_iff.mp h).1
  unfold ab_Wd
  rw [List.getElem?_map, List.getElem?_range hl]
  simp [h]
theorem ab_Wd_some {E : ab_En} {M : ab_Me} {k : Nat} {q : Nat × va_E} (h : (ab_Wd E M)[k]? = some q) : ∃ kd, M.1[k]? = some kd ∧ q = ((E.2 k).1, ab_ce E M k kd) := by
  have hl : k < (ab_Wd E M).length := (List.getElem?_eq_some_iff.mp h).1
  have hl2 : k < M.1.length := by simpa [ab_Wd] using hl
  have h1 : M.1[k]? = some M.1[k] := List.getElem?_eq_getElem hl2
  refine ⟨_, h1, ?_⟩
  have h2 := ab_Wd_get (E := E) h1
  rw [h] at h2
  exact Option.some.inj h2
theorem ab_Wd_len (E : ab_En) (M : ab_Me) : (ab_Wd E M).length = M.1.length := by simp [ab_Wd]
theorem ab_Wd_set {E : ab_En} {M M' : ab_Me} {k : Nat} {kd : Nat × Nat} (h : M.1[k]? = some kd) (hk : M'.1 = M.1) (ho : ∀ j kd, j ≠ k → ab_ce E M' j kd = ab_ce E M j kd) {e : va_E} (he : e = ab_ce E M' k kd) : (ab_Wd E M).set k ((E.2 k).1, e) = ab_Wd E M' := by
  subst he
  apply List.ext_getElem?
  intro j
  have hl : k < (ab_Wd E M).length := by rw [ab_Wd_len]; exact (List.getElem?_eq_some_iff.mp h).1
  by_cases hj : j = k
  · subst hj
    rw [List.getElem?_set_self hl]
    exact (ab_Wd_get (by rw [hk]; exact h)).symm
  · rw [List.getElem?_set_ne (Ne.symm hj)]
    cases hc : M.1[j]? with
    | none =>
      have h1 : M.1.length ≤ j := List.getElem?_eq_none_iff.mp hc
      rw [List.getElem?_eq_none (by rw [ab_Wd_len]; exact h1), List.getElem?_eq_none (by rw [ab_Wd_len, hk]; exact h1)]
    | some kd' => rw [ab_Wd_get hc, ab_Wd_get (M := M') (by rw [hk]; exact hc), ho j kd' hj]
/-- one entry of a table of rows -/
def ab_u2 {α : Type} (h : Nat → Nat → α) (k j : Nat) (x : α) : Nat → Nat → α := fun a b => if a = k ∧ b = j then x else h a b
theorem ab_u2_at {α : Type} {h : Nat → Nat → α} {k j : Nat} {x : α} : ab_u2 h k j x k j = x := if_pos ⟨rfl, rfl⟩
theorem ab_u2_ne {α : Type} {h : Nat → Nat → α} {k j : Nat} {x : α} {a b : Nat} (hn : ¬ (a = k ∧ b = j)) : ab_u2 h k j x a b = h a b := if_neg hn
theorem ab_u2_k {α : Type} {h : Nat → Nat → α} {k j : Nat} {x : α} {a b : Nat} (hn : a ≠ k) : ab_u2 h k j x a b = h a b := if_neg (fun q => hn q.1)
theorem ab_u2_row {α : Type} {h : Nat → Nat → α} {k j : Nat} {x : α} {a : Nat} (hn : a ≠ k) : ab_u2 h k j x a = h a := funext fun _ => if_neg (fun q => hn q.1)
theorem ab_u2_self {α : Type} {h : Nat → Nat → α} {k j : Nat} {x : α} : ab_u2 h k j x k = fun b => if b = j then x else h k b := by
  funext b
  simp [ab_u2]
def ab_uI (M : ab_Me) (k j : Nat) (x : Int32) : ab_Me := (M.1, ab_u2 M.2.1 k j x, M.2.2.1, M.2.2.2)
def ab_uL (M : ab_Me) (k j : Nat) (x : Int64) : ab_Me := (M.1, M.2.1, ab_u2 M.2.2.1 k j x, M.2.2.2)
def ab_uR (M : ab_Me) (k j : Nat) (x : Option Nat) : ab_Me := (M.1, M.2.1, M.2.2.1, ab_u2 M.2.2.2 k j x)
theorem ab_ce_uI {E : ab_En} {M : ab_Me} {k j : Nat} {x : Int32} (i : Nat) (kd : Nat × Nat) (h : i ≠ k) : ab_ce E (ab_uI M k j x) i kd = ab_ce E M i kd := by
  obtain ⟨a, n⟩ := kd
  match a with
  | 0 => simp [ab_ce, ab_uI, ab_ob, ab_u2_row h]
  | 1 => simp [ab_ce, ab_uI, ab_u2_row h]
  | 2 => simp [ab_ce, ab_uI]
  | a + 3 => simp [ab_ce, ab_uI]
theorem ab_ce_uL {E : ab_En} {M : ab_Me} {k j : Nat} {x : Int64} (i : Nat) (kd : Nat × Nat) (h : i ≠ k) : ab_ce E (ab_uL M k j x) i kd = ab_ce E M i kd := by
  obtain ⟨a, n⟩ := kd
  match a with
  | 0 => simp [ab_ce, ab_uL, ab_ob]
  | 1 => simp [ab_ce, ab_uL]
  | 2 => simp [ab_ce, ab_uL, ab_u2_row h]
  | a + 3 => simp [ab_ce, ab_uL]
theorem ab_ce_uR {E : ab_En} {M : ab_Me} {k j : Nat} {x : Option Nat} (i : Nat) (kd : Nat × Nat) (h : i ≠ k) : ab_ce E (ab_uR M k j x) i kd = ab_ce E M i kd := by
  obtain ⟨a, n⟩ := kd
  match a with
  | 0 => simp [ab_ce, ab_uR, ab_ob, ab_u2_row h]
  | 1 => simp [ab_ce, ab_uR]
  | 2 => simp [ab_ce, ab_uR]
  | a + 3 => simp [ab_ce, ab_uR, ab_u2_row h]
def ab_AT (s : State) (cA : ClassId) (kd : Nat × Nat) : Prop := match kd with
  | (0, _) => True
  | (1, _) => ArrOfT s cA .int ∧ va_RA s cA .int
  | (2, _) => ArrOfT s cA .long ∧ va_RA s cA .long
  | (3, _) => ArrOfT s cA (.array .long) ∧ va_RA s cA (.array .long)
  | (_, _) => ArrOfT s cA (.object ac_R) ∧ va_RA s cA (.object ac_R)
theorem ab_AT_moved {u U : State} (hvm : u.vm.Alike U.vm) {cA : ClassId} {kd : Nat × Nat} (h : ab_AT u cA kd) : ab_AT U cA kd := by
  obtain ⟨a, n⟩ := kd
  match a, h with
  | 0, _ => trivial
  | 1, h => exact ⟨arrOfT_moved hvm h.1, h.2.moved hvm⟩
  | 2, h => exact ⟨arrOfT_moved hvm h.1, h.2.moved hvm⟩
  | 3, h => exact ⟨arrOfT_moved hvm h.1, h.2.moved hvm⟩
  | a + 4, h => exact ⟨arrOfT_moved hvm h.1, h.2.moved hvm⟩
def ab_R (E : ab_En) (M : ab_Me) (D : va_G) (A : Nat → Prop) (s : State) (H : Heap) : Prop :=
  va_P D ab_cl (ab_Wd E M) H ∧ va_D A (ab_Wd E M) ∧ va_K D ab_cl [] s ∧ (∀ (k : Nat) (kd : Nat × Nat), M.1[k]? = some kd → ab_AT s (E.2 k).2 kd) ∧ ∀ (k j r : Nat), M.2.2.2 k j = some r → r < M.1.length
theorem ab_R.moved {E : ab_En} {M : ab_Me} {D : va_G} {A : Nat → Prop} {u U : State} {H : Heap} (hvm : u.vm.Alike U.vm) (h : ab_R E M D A u H) : ab_R E M D A U H :=
  ⟨h.1, h.2.1, h.2.2.1.moved hvm, fun k kd hk => ab_AT_moved hvm (h.2.2.2.1 k kd hk), h.2.2.2.2⟩
theorem ab_R.weaken {E : ab_En} {M : ab_Me} {D : va_G} {A B : Nat → Prop} {s : State} {H : Heap} (h : ab_R E M D A s H) (hAB : ∀ q, A q → B q) : ab_R E M D B s H :=
  ⟨h.1, h.2.1.weaken (fun _ _ _ hq => hAB _ hq), h.2.2⟩
/-- the types that a row of an array asks -/
theorem ab_R.ty {E : ab_En} {M : ab_Me} {D : va_G} {A : Nat → Prop} {s : State} {H : Heap} (h : ab_R E M D A s H) {cA : ClassId} {ty : FieldType} (ht : ArrOfT s cA ty ∧ va_RA s cA ty) : va_K D ab_cl [(cA, ty)] s :=
  ⟨h.2.2.1.1, fun k q hq => by
    have hk : k < 1 := (List.getElem?_eq_some_iff.mp hq).1
    rw [show k = 0 by omega] at hq
    cases hq
    exact ht⟩
def ab_lc (E : ab_En) (L : List (Nat × Value)) : List (Nat × Value) := L.map fun q => (q.1, ab_cv E q.2)
theorem ab_lc_at {E : ab_En} {L : List (Nat × Value)} {k i : Nat} {v : Value} (h : L[k]? = some (i, v)) : (ab_lc E L)[k]? = some (i, ab_cv E v) := by simp [ab_lc, h]
/-- the locals after a store of a value of one slot -/
def ab_sto (L : List (Nat × Value)) (i : Nat) (v : Value) : List (Nat × Value) := (i, v) :: L.filter (fun q => !(q.1 == i) && !(q.1 + 1 == i && q.2.category == 2))
theorem ab_lc_sto {E : ab_En} {L L' : List (Nat × Value)} {i : Nat} {v : Value} (h : ab_sto L i v = L') : (i, ab_cv E v) :: (ab_lc E L).filter (fun q => !(q.1 == i) && !(q.1 + 1 == i && q.2.category == 2)) = ab_lc E L' := by
  subst h
  unfold ab_lc ab_sto
  rw [List.map_cons, List.filter_map]
  congr 2
  apply congrArg (fun f => List.filter f L)
  funext q
  simp [Function.comp, ab_cv_cat]
def ab_ri (ty : Option FieldType) : Instr := match ty with
  | none => .return_
  | some .long => .lreturn
  | some (.object _) => .areturn
  | some (.array _) => .areturn
  | _ => .ireturn
/-- a value that a method of that type returns -/
def ab_vt (ty : Option FieldType) (v : Option Value) : Prop := match ty with
  | none => v = none
  | some .long => ∃ x, v = some (.long x)
  | some (.object _) => v = some .null ∨ ∃ k, v = some (.ref k)
  | some (.array _) => v = some .null ∨ ∃ k, v = some (.ref k)
  | some .int => ∃ x, v = some (.int x)
  | some t => ∃ x, v = some (.int x) ∧ narrow t (.int x) = .int x
def ab_xt (kc : Nat) (kk : List (Nat × Nat)) (E : ab_En) (kk' : List (Nat × Nat)) (E' : ab_En) : Prop :=
  kk <+: kk' ∧ kk'.length ≤ kk.length + kc ∧ E'.1 = E.1 ∧ ∀ k, (k < kk.length ∨ kk'.length ≤ k) → E'.2 k = E.2 k
theorem ab_xt_rf (kc : Nat) (kk : List (Nat × Nat)) (E : ab_En) : ab_xt kc kk E kk E := ⟨List.prefix_refl _, by omega, rfl, fun _ _ => rfl⟩
/-- nothing was made: all stays -/
theorem ab_xt_0 {kk kk' : List (Nat × Nat)} {E E' : ab_En} (h : ab_xt 0 kk E kk' E') : kk' = kk ∧ E' = E := by
  obtain ⟨h1, h2, h3, h4⟩ := h
  have hl := h1.length_le
  have e1 : kk = kk' := h1.eq_of_length (by omega)
  refine ⟨e1.symm, ?_⟩
  have e2 : E'.2 = E.2 := funext fun k => h4 k (by rw [e1]; omega)
  exact Prod.ext h3 e2
theorem ab_xt_trans {k1 k2 : Nat} {a b c : List (Nat × Nat)} {E F G : ab_En} (h1 : ab_xt k1 a E b F) (h2 : ab_xt k2 b F c G) : ab_xt (k1 + k2) a E c G := by
  obtain ⟨p1, l1, e1, f1⟩ := h1
  obtain ⟨p2, l2, e2, f2⟩ := h2
  have q1 := p1.length_le
  have q2 := p2.length_le
  refine ⟨p1.trans p2, by omega, e2.trans e1, fun k hk => ?_⟩
  rw [f2 k (by omega), f1 k (by omega)]
def ab_AA (U : State) : Prop := (Cond.arrayOver (.array .long)).before #[] U = true
theorem ab_AA.moved {u U : State} (hvm : u.vm.Alike U.vm) (h : ab_AA u) : ab_AA U := by
  obtain ⟨comp, c, k, h1, h2, h3, h4, h5⟩ := arrayOverA_spec h
  obtain ⟨k', hk', he⟩ := hvm.2.2 _ _ h3
  have hi := (hvm.findIdx?_eq _ (fun _ => rfl)).trans h2
  have hkind : k'.kind = .array comp (.array .long) := by rw [he]; exact h4
  have f1 : U.vm.findClass (FieldType.array .long).toString = some comp := by rw [hvm.findClass]; exact h1
  have f2 : U.vm.findClass ("[" ++ (FieldType.array .long).toString) = some c := by rw [hvm.findClass]; exact h5
  unfold ab_AA Cond.before Cond.holds
  simp only [Cond.value]
  rw [f1, Option.bind_some]
  refine (congrArg (fun o : Option Nat => (o.bind (fun c => (U.vm.classes[c]?).map fun (k : Class) => match k.kind with | .array _ ty => decide (ty = FieldType.array .long) && decide (U.vm.findClass ("[" ++ (FieldType.array .long).toString) = some c) | _ => false) == some true)) hi).trans ?_
  simp [hk', hkind, f2]
/-- what the tables say beside the good words -/
def ab_NW (s : State) : Prop := (∀ w ∈ ab_T2, va_Nw w s) ∧ va_AO ac_R s ∧ ab_AA s
theorem ab_NW.warm {s U : State} (hW : s.WarmedH U.vm) (h : ab_NW s) : ab_NW U := by
  refine ⟨fun w hw => ?_, h.2.1.moved hW.alike, h.2.2.moved hW.alike⟩
  have hn := (List.mem_filter.mp hw).2
  have h1 := h.1 w hw
  cases w <;> first | (simp [ab_isN] at hn; done) | exact va_Nw.warmF hW h1 | exact va_Nw.warmM hW h1
theorem ab_NW.same {u U : State} (hv : u.vm = U.vm) (h : ab_NW u) : ab_NW U := by
  refine ⟨fun w hw => ?_, h.2.1.moved (by rw [hv]; exact Vm.Alike.refl _), h.2.2.moved (by rw [hv]; exact Vm.Alike.refl _)⟩
  have hn := (List.mem_filter.mp hw).2
  have h1 := h.1 w hw
  cases w <;> first | (simp [ab_isN] at hn; done) | exact va_Nw.same rfl hv h1
/-- what stands there from the start and nobody writes: the ways, the words' text -/
def ab_wy : List Int32 := [0, 1, 2, 0, 2, 1, 1, 0, 2, 1, 2, 0, 2, 0, 1, 2, 1, 0]
def ab_tx : String := "step 0..step 1..step 2..jump 0..jump 1..jump 2..put.....take....must....end noneend 1...end 2...end 3..."
def ab_by : List Int32 := [115, 116, 101, 112, 32, 48, 46, 46, 115, 116, 101, 112, 32, 49, 46, 46, 115, 116, 101, 112, 32, 50, 46, 46, 106, 117, 109, 112, 32, 48, 46, 46, 106, 117, 109, 112, 32, 49, 46, 46, 106, 117, 109, 112, 32, 50, 46, 46, 112, 117, 116, 46, 46, 46, 46, 46, 116, 97, 107, 101, 46, 46, 46, 46, 109, 117, 115, 116, 46, 46, 46, 46, 101, 110, 100, 32, 110, 111, 110, 101, 101, 110, 100, 32, 49, 46, 46, 46, 101, 110, 100, 32, 50, 46, 46, 46, 101, 110, 100, 32, 51, 46, 46, 46]
def ab_ST (a : UInt32 → Nat) (A : Nat → Prop) (s : State) : Prop :=
  va_Z "WhatGame" "WAYS" "[I" (.ref (a 1)) A s s.heap ∧ va_T .int (a 1) 18 (fun j => .int (ab_wy.getD j 0)) A s s.heap ∧ vk_R "WhatGame$Rule" 55 ab_tx (a 2) s ∧ vk_S 1 [104] [ab_by] (fun _ => a 2) (fun _ => a 3) A s s.heap ∧ va_Z "java/lang/String" "COMPACT_STRINGS" "Z" (.int 1) A s s.heap ∧ (va_Z "jdk/internal/util/Preconditions" "SIOOBE_FORMATTER" "Ljava/util/function/BiFunction;" .null A s s.heap ∨ va_Z "jdk/internal/util/Preconditions" "SIOOBE_FORMATTER" "Ljava/util/function/BiFunction;" (.ref (a 4)) A s s.heap)
def ab_SX (X : Option (Nat × (Nat → Int32))) (E : ab_En) (A : Nat → Prop) (s : State) : Prop := match X with
  | none => True
  | some (n, xs) => (va_X (E.1 0) n xs s s.heap ∧ E.1 0 < s.heap.size ∧ ¬ A (E.1 0)) ∧ ab_ST E.1 A s
def ab_Cx (l : Launch) (X : Option (Nat × (Nat → Int32))) (y : ab_M) (d kc ks : Nat) (kk : List (Nat × Nat)) (K : Option Value → ab_Me → Prop) (p : Program) (e : Env) (R : Room) (s : State) (m : MethodId) (args : Array Value) (below : List Frame) (meth : Method) (c : Code) (E : ab_En) (D : va_G) (A : Nat → Prop) (cells slots : Nat) (Q : State → Prop) : Prop :=
  CallFix p m c y.2.1 y.2.2.1 s args ab_T y.1.cls ∧ (d ≤ R.frames ∧ d * 64 ≤ R.locals) ∧ (y.1.name = "<init>" → meth.name = "<init>") ∧ (∀ q, s.heap.size ≤ q → A q) ∧ ab_SX X E A s ∧ ab_NW s ∧ (cells + kc ≤ R.cells ∧ slots + ks ≤ R.slots) ∧
  ∀ (E' : ab_En) (M' : ab_Me) (H' : Heap) (locs' : List Loc) (ls' : Array Slot) (pc' : Nat) (v : Option Value), ab_xt kc kk E M'.1 E' → K v M' → ab_vt y.2.2.2 v → ab_R E' M' D A s H' → va_S A s.heap H' locs' → decode y.2.1 pc' = .ok (ab_ri y.2.2.2, 1) →
    W p l e R s m args below meth c H' locs' (cells + kc) (slots + ks) Q (F0 m pc' ls' (v.toList.map (ab_cv E')))
def ab_G (l : Launch) (X : Option (Nat × (Nat → Int32))) (y : ab_M) (d kc ks : Nat) (pc : Nat) (L : List (Nat × Value)) (st : List Value) (M : ab_Me) (K : Option Value → ab_Me → Prop) : Prop :=
  ∀ (p : Program) (e : Env) (R : Room) (s : State) (m : MethodId) (args : Array Value) (below : List Frame) (meth : Method) (c : Code) (E : ab_En) (D : va_G) (A : Nat → Prop) (H : Heap) (locs : List Loc) (cells slots : Nat) (ls : Array Slot) (Q : State → Prop),
    ab_Cx l X y d kc ks M.1 K p e R s m args below meth c E D A cells slots Q → ab_R E M D A s H → va_S A s.heap H locs → lv_has ls y.2.2.1 (ab_lc E L) → W p l e R s m args below meth c H locs cells slots Q (F0 m pc ls (st.map (ab_cv E)))
def ab_rm (d kc ks : Nat) : Room := { frames := d, cells := kc, slots := ks, locals := d * 64 }
def ab_Bp (E : ab_En) (M : ab_Me) (D : va_G) (sz : Nat) : State → Prop := fun U => U.heap.size = sz ∧ ab_NW U ∧ ab_R E M D (fun _ => True) U U.heap
def ab_Q (E : ab_En) (M : ab_Me) (D : va_G) (sz : Nat) (kc : Nat) (ty : Option FieldType) (K : Option Value → ab_Me → Prop) : Array Value → State → Outcome → State → Prop := fun _ st o t =>
  (∃ (v : Option Value) (E' : ab_En) (M' : ab_Me), o = .returned (v.map (ab_cv E')) ∧ K v M' ∧ ab_vt ty v ∧ ab_xt kc M.1 E M'.1 E' ∧ ab_R E' M' D (va_A (ab_Wd E M) sz) t t.heap) ∧ va_F (va_A (ab_Wd E M) sz) st t
/-- a method's contract: from memory M with these arguments it returns, with K of what it answers and of the memory then; at most kc cells of ks slots are made -/
def ab_C (l : Launch) (y : ab_M) (d kc ks : Nat) (as : List Value) (M : ab_Me) (K : Option Value → ab_Me → Prop) : Prop :=
  ∀ (E : ab_En) (D : va_G) (sz : Nat), Met l y.1 (ab_ws y) (ab_rm d kc ks) (va_Pc (as.map (ab_cv E)) (ab_Bp E M D sz)) (ab_Q E M D sz kc y.2.2.2 K) kc ks (va_A (ab_Wd E M) sz)
