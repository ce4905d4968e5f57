/-! what stands there from the start: the ways, the words' text, the types of the six; then the walk of the law from its entry -/
theorem sw_e1 : ∀ j : Nat, j < 18 → (Cond.eq (.elem (.static "WhatGame" "WAYS" "[I") (.int (Int32.ofNat j))) (.int (ab_wy.getD j 0))) ∈ flatC (Jvm.Cond.and given_1 narrow_1) := by decide +kernel
theorem sw_e2 : ∀ j : Nat, j < 104 → (Cond.eq (.elem (.field (.string "WhatGame$Rule" 55) "java/lang/String" "value" "[B") (.int (Int32.ofNat j))) (.int (ab_by.getD j 0))) ∈ flatC (Jvm.Cond.and given_1 narrow_1) := by decide +kernel
theorem sw_t {w : Cond} (i : Nat) (h : tables_1[i]? = some w) : w ∈ lw_tbl := List.mem_append_right _ (List.mem_of_getElem? h)
theorem sw_ST {args : Array Value} {s : State} (hts : ∀ w ∈ lw_tbl, w.before args s = true) (hgv : (Jvm.Cond.and given_1 narrow_1).before args s = true) {A : Nat → Prop} (hA : ∀ a : Nat, a < s.heap.size → ¬ A a) (b : Nat) : ∃ a : UInt32 → Nat, a 0 = b ∧ ab_ST a A s := by
  have hs := flat_of_before _ hgv
  obtain ⟨t, ht, hT⟩ := va_Tof (s := s) (args := args) (tm := .static "WhatGame" "WAYS" "[I") (ty := .int) (N := 18) (f := fun j => .int (ab_wy.getD j 0)) (A := A) (by decide) (hs _ (by decide +kernel)) (va_eqt (z := Int32.ofNat 18) (hs _ (by decide +kernel))) (fun j hj => va_eqt (hs _ (sw_e1 j hj))) hA
  have hZ := va_Zref (A := A) (hts _ (sw_t (w := .laysStatic "WhatGame" "WAYS" "[I") 728 (by decide +kernel))) (hts _ (sw_t (w := .initialized "WhatGame") 1 (by decide +kernel))) ht hA
  obtain ⟨adK, adV, hS, hev⟩ := vk_Sof (args := args) (s := s) (N := 1) (tm := fun _ => .string "WhatGame$Rule" 55) (len := [104]) (byt := [ab_by]) (A := A)
    (fun i hi => by have e : i = 0 := by omega
                    subst e; decide)
    (fun i hi => hs _ (by decide +kernel)) (fun i hi => hs _ (by decide +kernel)) (fun i hi => hs _ (by decide +kernel))
    (fun i hi => by have e : i = 0 := by omega
                    subst e; exact hs (Cond.eq (.length (.field (.string "WhatGame$Rule" 55) "java/lang/String" "value" "[B")) (.int (Int32.ofNat 104))) (by decide +kernel))
    (fun i hi j hj => by have e : i = 0 := by omega
                         subst e; exact hs _ (sw_e2 j hj))
    (fun i j hi hj h => absurd (by omega : i = j) h) hA
  have hR : vk_R "WhatGame$Rule" 55 ab_tx (adK 0) s := vk_R.of (A := args) (hts _ (sw_t (w := .stringRef "WhatGame$Rule" 55 ab_tx) 300 (by decide +kernel))) (hev 0 (by decide))
  have hC := va_Zof (A := A) (v := .int 1) (hts _ (sw_t (w := .laysStatic "java/lang/String" "COMPACT_STRINGS" "Z") 310 (by decide +kernel))) (hts _ (sw_t (w := .initialized "java/lang/String") 11 (by decide +kernel))) (va_eqi (hs _ (by decide +kernel))) hA
  have hF := va_Zqof (A := A) (hts _ (sw_t (w := .laysStatic "jdk/internal/util/Preconditions" "SIOOBE_FORMATTER" "Ljava/util/function/BiFunction;") 318 (by decide +kernel))) (hts _ (sw_t (w := .initialized "jdk/internal/util/Preconditions") 13 (by decide +kernel))) (hs _ (by decide +kernel)) hA
  have hF' : ∃ u : Nat, va_Z "jdk/internal/util/Preconditions" "SIOOBE_FORMATTER" "Ljava/util/function/BiFunction;" .null A s s.heap ∨ va_Z "jdk/internal/util/Preconditions" "SIOOBE_FORMATTER" "Ljava/util/function/BiFunction;" (.ref u) A s s.heap := by
    rcases hF with z | ⟨u, z⟩
    · exact ⟨0, Or.inl z⟩
    · exact ⟨u, Or.inr z⟩
  obtain ⟨u, hF⟩ := hF'
  have hS1 : vk_S 1 [104] [ab_by] (fun _ => adK 0) (fun _ => adV 0) A s s.heap := ⟨fun i hi => by
    have e : i = 0 := by omega
    subst e
    exact hS.1 0 (by decide), fun i j hi hj _ => by omega⟩
  exact ⟨fun n => if n = 0 then b else if n = 1 then t else if n = 2 then adK 0 else if n = 3 then adV 0 else u, rfl, hZ, hT, hR, hS1, hC, hF⟩
theorem sw_i (ci : Nat) (h : ci < 6) : Cond.instantiable (ab_cn ci) (ab_nf ci) ∈ lw_tbl := by
  rcases (by omega : ci = 0 ∨ ci = 1 ∨ ci = 2 ∨ ci = 3 ∨ ci = 4 ∨ ci = 5) with e | e | e | e | e | e <;> subst e
  · exact sw_t 40 (by decide +kernel)
  · exact sw_t 28 (by decide +kernel)
  · exact sw_t 34 (by decide +kernel)
  · exact sw_t 347 (by decide +kernel)
  · exact sw_t 16 (by decide +kernel)
  · exact sw_t 791 (by decide +kernel)
theorem sw_K {args : Array Value} {s : State} (hts : ∀ w ∈ lw_tbl, w.before args s = true) : ∃ D : va_G, va_K D ab_cl [] s := by
  have h0 : ∀ ci : Nat, ∃ q : ClassId × (Nat → Nat → Nat), ci < 6 → u_Kn s (ab_cn ci) (ab_fn ci) (ab_nf ci) q.1 (q.2 0) := by
    intro ci
    by_cases h : ci < 6
    · obtain ⟨cC, iS, hk⟩ := u_known (N := ab_nf ci) (T := ab_fn ci) (fun w hw => hts w (ab_T_good w hw).1) (ab_ai ci h) (hts _ (sw_i ci h))
      exact ⟨(cC, fun _ => iS), fun _ => hk⟩
    · exact ⟨(0, fun _ _ => 0), fun z => absurd z h⟩
  obtain ⟨f, hf⟩ := Classical.axiomOfChoice h0
  refine ⟨(fun k => (f k).1, fun k => (f k).2 0), fun k q hq => ?_, fun k q h => by simp at h⟩
  have hk : k < 6 := (List.getElem?_eq_some_iff.mp hq).1
  cases (ab_acl k hk).symm.trans hq
  exact hf k hk
theorem sw_NW {args : Array Value} {s : State} (hts : ∀ w ∈ lw_tbl, w.before args s = true) : ab_NW s := by
  refine ⟨fun w hw => ?_, va_AO.of (hts (.arrayOver (.object "WhatGame$Rule")) (sw_t 26 (by decide +kernel))), hts (.arrayOver (.array .long)) (sw_t 24 (by decide +kernel))⟩
  have hn := (List.mem_filter.mp hw).2
  have h1 := hts w (List.mem_filter.mp hw).1
  cases w <;> first | (simp [ab_isN] at hn; done) | exact va_Nw.of rfl h1
