section ABX
variable {l : Launch} {X : Option (Nat × (Nat → Int32))} {y : ab_M} {d kc ks : Nat} {K : Option Value → ab_Me → Prop} {pc : Nat} {L : List (Nat × Value)} {st : List Value} {M : ab_Me}
theorem ab_mn1 : am_X_min.1 = Lib.Math.min.name ∧ am_X_max.1 = Lib.Math.max.name := ⟨by decide +kernel, by decide +kernel⟩
theorem ab_mn2 : Cond.code Lib.Math.min.name Lib.Math.min.code 2 (some .int) ∈ ab_T ∧ Cond.code Lib.Math.max.name Lib.Math.max.code 2 (some .int) ∈ ab_T := ⟨mo_X_min.1, mo_X_max.1⟩
theorem ab_min {i d' : Nat} {x z : Int32} (hml : Cond.methodLink y.1.cls i am_X_min.1 ∈ ab_T) (hcat : (st.map fun v => v.category).sum ≤ 8) (hd : decode y.2.1 pc = .ok (.invokestatic i, 3)) (k : ab_G l X y (d' + 1) kc ks (pc + 3) L (.int (if z < x then z else x) :: st) M K) : ab_G l X y (d' + 1) kc ks pc L (.int z :: .int x :: st) M K := by
  intro p e R s m args below meth c E D A H locs cells slots ls Q C hR hS hL
  have hts := C.1.2.2.2.2
  · have h1 := ab_mroom (m := m) (ls := ls) (pc := pc) (E := E) (S := st.map (ab_cv E)) hcat
    refine va_mmin C.1.1 C.1.2.1 (C.1.2.2.1.trans hL.1.symm) C.1.2.2.2.1 (hts _ hml) (hts _ ms_X_min) (hts _ mo_X_min.2.1) (hts _ ab_mn2.1) ?_ ?_ ?_ ?_ hd (k p e R s m args below meth c E D A H locs cells slots ls Q C hR hS hL)
    · have := C.2.1.1; omega
    · have h2 := C.2.1.2
      have h3 := Nat.le_trans (Nat.le_add_left _ _) h1
      omega
    · have := C.2.2.2.2.2.2.1.1; omega
    · have := C.2.2.2.2.2.2.1.2; omega
theorem ab_max {i d' : Nat} {x z : Int32} (hml : Cond.methodLink y.1.cls i am_X_max.1 ∈ ab_T) (hcat : (st.map fun v => v.category).sum ≤ 8) (hd : decode y.2.1 pc = .ok (.invokestatic i, 3)) (k : ab_G l X y (d' + 1) kc ks (pc + 3) L (.int (if x < z then z else x) :: st) M K) : ab_G l X y (d' + 1) kc ks pc L (.int z :: .int x :: st) M K := by
  intro p e R s m args below meth c E D A H locs cells slots ls Q C hR hS hL
  have hts := C.1.2.2.2.2
  · have h1 := ab_mroom (m := m) (ls := ls) (pc := pc) (E := E) (S := st.map (ab_cv E)) hcat
    refine va_mmax C.1.1 C.1.2.1 (C.1.2.2.1.trans hL.1.symm) C.1.2.2.2.1 (hts _ hml) (hts _ ms_X_max) (hts _ mo_X_max.2.1) (hts _ ab_mn2.2) ?_ ?_ ?_ ?_ hd (k p e R s m args below meth c E D A H locs cells slots ls Q C hR hS hL)
    · have := C.2.1.1; omega
    · have h2 := C.2.1.2
      have h3 := Nat.le_trans (Nat.le_add_left _ _) h1
      omega
    · have := C.2.2.2.2.2.2.1.1; omega
    · have := C.2.2.2.2.2.2.1.2; omega
end ABX
