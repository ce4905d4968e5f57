/-! eight rows of 60 longs, in a row of rows, as places -/
section ABM
variable {l : Launch} {X : Option (Nat × (Nat → Int32))} {y : ab_M} {d kc ks : Nat} {K : Option Value → ab_Me → Prop} {pc : Nat} {L : List (Nat × Value)} {st : List Value} {M : ab_Me}
def ab_mx (M : ab_Me) : ab_Me := (M.1 ++ ((3, 8) :: List.replicate 8 (2, 60)), fun a b => if M.1.length ≤ a then 0 else M.2.1 a b, fun a b => if M.1.length ≤ a then 0 else M.2.2.1 a b, fun a b => if M.1.length ≤ a then (if a = M.1.length ∧ b < 8 then some (M.1.length + 1 + b) else none) else M.2.2.2 a b)
def ab_em (E : ab_En) (k a : Nat) (cA cB : ClassId) : ab_En := (E.1, fun j => if j < k then E.2 j else if j = k then (a, cA) else if j ≤ k + 8 then (a + (j - k), cB) else E.2 j)
theorem ab_mx_len : (ab_mx M).1.length = M.1.length + 9 := by
  show (M.1 ++ ((3, 8) :: List.replicate 8 (2, 60))).length = _
  rw [List.length_append]
  rfl
theorem ab_em_xt {E : ab_En} {a : Nat} {cA cB : ClassId} : ab_xt 9 M.1 E (ab_mx M).1 (ab_em E M.1.length a cA cB) := by
  refine ⟨List.prefix_append _ _, by rw [ab_mx_len]; exact Nat.le_refl _, rfl, fun k hk => ?_⟩
  rw [ab_mx_len] at hk
  show (if k < M.1.length then E.2 k else _) = _
  rcases hk with h | h
  · rw [if_pos h]
  · rw [if_neg (by omega), if_neg (by omega), if_neg (by omega)]
theorem ab_ce_mx {E : ab_En} {D : va_G} {A : Nat → Prop} {s : State} {H : Heap} {a : Nat} {cA cB : ClassId} (hR : ab_R E M D A s H) {k : Nat} {k0 : Nat × Nat} (hk : k < M.1.length) : ab_ce (ab_em E M.1.length a cA cB) (ab_mx M) k k0 = ab_ce E M k k0 := by
  have hn : ¬ M.1.length ≤ k := by omega
  have e2 : (ab_em E M.1.length a cA cB).2 k = E.2 k := if_pos hk
  have h1 : (ab_mx M).2.1 k = M.2.1 k := funext fun _ => if_neg hn
  have h2 : (ab_mx M).2.2.1 k = M.2.2.1 k := funext fun _ => if_neg hn
  have h3 : (ab_mx M).2.2.2 k = M.2.2.2 k := funext fun _ => if_neg hn
  have h4 : ∀ j, ab_rf (ab_em E M.1.length a cA cB) ((ab_mx M).2.2.2 k j) = ab_rf E (M.2.2.2 k j) := fun j => by
    rw [h3]
    cases h : M.2.2.2 k j with
    | none => rfl
    | some r =>
      have hr := hR.2.2.2.2 k j r h
      show some ((if r < M.1.length then E.2 r else _).1) = some (E.2 r).1
      rw [if_pos hr]
  obtain ⟨q, n⟩ := k0
  match q with
  | 0 =>
    show Sum.inr (n, _) = Sum.inr (n, _)
    refine congrArg (fun z => Sum.inr (n, z)) ?_
    unfold ab_ob
    refine List.map_congr_left (fun j _ => ?_)
    unfold ab_fv
    rw [h1, h4]
  | 1 => simp only [ab_ce, e2, h1]
  | 2 => simp only [ab_ce, e2, h2]
  | q + 3 => simp only [ab_ce, e2, h4]
theorem arrV_cong {cA : ClassId} {N : Nat} {f g : Nat → Value} (h : ∀ j, j < N → f j = g j) : arrV cA N f = arrV cA N g := by
  unfold arrV
  congr 1
  apply congrArg
  funext j
  exact h j.val j.isLt
theorem ab_R_mx {E : ab_En} {D : va_G} {A : Nat → Prop} {s : State} {H H1 : Heap} {cA cB : ClassId} (hR : ab_R E M D A s H) (hA : ∀ q, H.size ≤ q → A q) (hz : H1.size = H.size + 9) (ho : ∀ q, q < H.size → H1[q]? = H[q]?) (h0 : H1[H.size]? = some (mw_o cA H.size 8)) (h1 : ∀ j, j < 8 → H1[H.size + 1 + j]? = some (arrV cB 60 (fun _ => .long 0))) (t0 : ArrOfT s cA (.array .long) ∧ va_RA s cA (.array .long)) (t1 : ArrOfT s cB .long ∧ va_RA s cB .long) : ab_R (ab_em E M.1.length H.size cA cB) (ab_mx M) D A s H1 := by
  have hold : ∀ k, k < M.1.length → (ab_em E M.1.length H.size cA cB).2 k = E.2 k := fun k hk => if_pos hk
  have hout : (ab_em E M.1.length H.size cA cB).2 M.1.length = (H.size, cA) := by
    show (if M.1.length < M.1.length then E.2 _ else if M.1.length = M.1.length then (H.size, cA) else _) = _
    rw [if_neg (Nat.lt_irrefl _), if_pos rfl]
  have hin : ∀ j, j < 8 → (ab_em E M.1.length H.size cA cB).2 (M.1.length + 1 + j) = (H.size + 1 + j, cB) := fun j hj => by
    show (if M.1.length + 1 + j < M.1.length then E.2 _ else if M.1.length + 1 + j = M.1.length then (H.size, cA) else if M.1.length + 1 + j ≤ M.1.length + 8 then (H.size + (M.1.length + 1 + j - M.1.length), cB) else _) = _
    rw [if_neg (by omega), if_neg (by omega), if_pos (by omega), show H.size + (M.1.length + 1 + j - M.1.length) = H.size + 1 + j by omega]
  have kind : ∀ k kd, (ab_mx M).1[k]? = some kd → (k < M.1.length ∧ M.1[k]? = some kd) ∨ (k = M.1.length ∧ kd = (3, 8)) ∨ ∃ j, j < 8 ∧ k = M.1.length + 1 + j ∧ kd = (2, 60) := by
    intro k kd hk
    have hk2 : (M.1 ++ ((3, 8) :: List.replicate 8 (2, 60)))[k]? = some kd := hk
    rcases Nat.lt_or_ge k M.1.length with h | h
    · rw [List.getElem?_append_left h] at hk2
      exact Or.inl ⟨h, hk2⟩
    · rw [List.getElem?_append_right h] at hk2
      obtain ⟨i, hi⟩ : ∃ i, k = M.1.length + i := ⟨k - M.1.length, by omega⟩
      subst hi
      rw [Nat.add_sub_cancel_left] at hk2
      cases i with
      | zero => cases hk2; exact Or.inr (Or.inl ⟨rfl, rfl⟩)
      | succ i =>
        rw [List.getElem?_cons_succ, List.getElem?_replicate] at hk2
        split at hk2
        · rename_i hi
          cases hk2
          exact Or.inr (Or.inr ⟨i, hi, by omega, rfl⟩)
        · cases hk2
  have addr : ∀ k kd, (ab_mx M).1[k]? = some kd → (k < M.1.length ∧ ((ab_em E M.1.length H.size cA cB).2 k).1 < H.size) ∨ (M.1.length ≤ k ∧ ((ab_em E M.1.length H.size cA cB).2 k).1 = H.size + (k - M.1.length)) := by
    intro k kd hk
    rcases kind k kd hk with ⟨h, h2⟩ | ⟨h, -⟩ | ⟨j, hj, h, -⟩
    · left
      refine ⟨h, ?_⟩
      rw [hold k h]
      exact (hR.1 k _ (ab_Wd_get h2)).lt
    · right
      subst h
      rw [hout]
      exact ⟨Nat.le_refl _, by show H.size = _; omega⟩
    · right
      subst h
      rw [hin j hj]
      exact ⟨by omega, by show H.size + 1 + j = _; omega⟩
  refine ⟨fun k q hk => ?_, ⟨fun i j p q hi hj hpq => ?_, fun k q hk => ?_⟩, hR.2.2.1, fun k kd hk => ?_, fun k j r h => ?_⟩
  · obtain ⟨kd, hkd, rfl⟩ := ab_Wd_some hk
    rcases kind k kd hkd with ⟨h, h2⟩ | ⟨h, rfl⟩ | ⟨j, hj, h, rfl⟩
    · rw [ab_ce_mx hR h, hold k h]
      have hat := hR.1 k _ (ab_Wd_get h2)
      exact hat.kept (ho _ hat.lt)
    · subst h
      show H1[((ab_em E M.1.length H.size cA cB).2 M.1.length).1]? = some (vp_cell ((ab_em E M.1.length H.size cA cB).2 M.1.length).2 (8, .inr (.inr (.inr (.inr fun i => ab_rf (ab_em E M.1.length H.size cA cB) ((ab_mx M).2.2.2 M.1.length i))))))
      rw [hout, vp_cell_q, h0]
      refine congrArg some (arrV_cong (fun j hj => ?_))
      have e1 : (ab_mx M).2.2.2 M.1.length j = some (M.1.length + 1 + j) := by
        show (if M.1.length ≤ M.1.length then (if M.1.length = M.1.length ∧ j < 8 then some (M.1.length + 1 + j) else none) else _) = _
        rw [if_pos (Nat.le_refl _), if_pos ⟨rfl, hj⟩]
      rw [if_pos hj, e1]
      show _ = Value.ref ((ab_em E M.1.length H.size cA cB).2 (M.1.length + 1 + j)).1
      rw [hin j hj]
    · subst h
      show H1[((ab_em E M.1.length H.size cA cB).2 (M.1.length + 1 + j)).1]? = some (vp_cell ((ab_em E M.1.length H.size cA cB).2 (M.1.length + 1 + j)).2 (60, .inr (.inl ((ab_mx M).2.2.1 (M.1.length + 1 + j)))))
      rw [hin j hj, vp_cell_l, h1 j hj]
      refine congrArg some (arrV_cong (fun i hi => ?_))
      show Value.long 0 = Value.long (if M.1.length ≤ M.1.length + 1 + j then 0 else _)
      rw [if_pos (by omega)]
  · obtain ⟨k1, hk1, rfl⟩ := ab_Wd_some hi
    obtain ⟨k2, hk2, rfl⟩ := ab_Wd_some hj
    have hpq' : ((ab_em E M.1.length H.size cA cB).2 i).1 = ((ab_em E M.1.length H.size cA cB).2 j).1 := hpq
    rcases addr i k1 hk1 with ⟨a1, a2⟩ | ⟨a1, a2⟩ <;> rcases addr j k2 hk2 with ⟨b1, b2⟩ | ⟨b1, b2⟩
    · rcases kind i k1 hk1 with ⟨-, c1⟩ | ⟨c1, -⟩ | ⟨z, -, c1, -⟩
      · rcases kind j k2 hk2 with ⟨-, c2⟩ | ⟨c2, -⟩ | ⟨z, -, c2, -⟩
        · rw [hold i a1, hold j b1] at hpq'
          exact hR.2.1.1 i j _ _ (ab_Wd_get c1) (ab_Wd_get c2) hpq'
        · omega
        · omega
      · omega
      · omega
    · omega
    · omega
    · omega
  · obtain ⟨kd, hkd, rfl⟩ := ab_Wd_some hk
    show A ((ab_em E M.1.length H.size cA cB).2 k).1
    rcases kind k kd hkd with ⟨h, h2⟩ | ⟨h, -⟩ | ⟨j, hj, h, -⟩
    · rw [hold k h]
      exact hR.2.1.2 k _ (ab_Wd_get h2)
    · subst h
      rw [hout]
      exact hA _ (Nat.le_refl _)
    · subst h
      rw [hin j hj]
      exact hA _ (by show H.size ≤ H.size + 1 + j; omega)
  · rcases kind k kd hk with ⟨h, h2⟩ | ⟨h, rfl⟩ | ⟨j, hj, h, rfl⟩
    · rw [hold k h]
      exact hR.2.2.2.1 k kd h2
    · subst h
      rw [hout]
      exact t0
    · subst h
      rw [hin j hj]
      exact t1
  · have h2 : (if M.1.length ≤ k then (if k = M.1.length ∧ j < 8 then some (M.1.length + 1 + j) else none) else M.2.2.2 k j) = some r := h
    rw [ab_mx_len]
    split at h2
    · split at h2
      · rename_i hz2
        cases h2
        omega
      · cases h2
    · have := hR.2.2.2.2 k j r h2
      omega
theorem ab_newM {i kc2 ks2 : Nat} (hw : Cond.classLink y.1.cls i "[[J" ∈ ab_T) (hw3 : Cond.arrayClass .long ∈ ab_T) (hLo : L.all (fun q => ab_okv M.1.length q.2) = true) (hst : st.all (ab_okv M.1.length) = true) (hd : decode y.2.1 pc = .ok (.multianewarray i 2, 4)) (k : ab_G l X y d kc2 ks2 (pc + 4) L (.ref M.1.length :: st) (ab_mx M) K) : ab_G l X y d (9 + kc2) (488 + ks2) pc L (.int 60 :: .int 8 :: st) M K := by
  intro p e R s m args below meth c E D A H locs cells slots ls Q C hR hS hL
  have hts := C.1.2.2.2.2
  refine W_multi C.1.1 C.1.2.1 C.1.2.2.2.1 (hts _ hw) C.2.2.2.2.2.1.2.2 (hts _ hw3) hd (by have := C.2.2.2.2.2.2.1.1; omega) (by have := C.2.2.2.2.2.2.1.2; omega) (fun cA cB H1 hz ho h0 h1 t0 t1 => ?_)
  have hAH : ∀ q, H.size ≤ q → A q := fun q hq => C.2.2.2.1 q (Nat.le_trans hS.1 hq)
  have hR1 := ab_R_mx hR hAH hz ho h0 h1 t0 t1
  have hx : ab_xt 9 M.1 E (ab_mx M).1 (ab_em E M.1.length H.size cA cB) := ab_em_xt
  have hS1 : va_S A s.heap H1 (locs ++ (List.range 8).map fun j => (⟨H.size, j⟩ : Loc)) := ⟨Nat.le_trans hS.1 (by omega), fun q q1 q2 => (ho q (Nat.lt_of_lt_of_le q1 hS.1)).trans (hS.2.1 q q1 q2), fun q hq => by
    rcases List.mem_append.mp hq with h | h
    · exact hS.2.2 q h
    · obtain ⟨z, -, rfl⟩ := List.mem_map.mp h
      exact hAH _ (Nat.le_refl _)⟩
  have hw := k p e R s m args below meth c _ D A H1 _ (cells + 9) (slots + 488) ls Q (ab_more hx C) hR1 hS1 (by rw [ab_lc_xt hx hLo]; exact hL)
  rw [List.map_cons, ab_map_xt hx hst] at hw
  have e1 : ab_cv (ab_em E M.1.length H.size cA cB) (.ref M.1.length) = .ref H.size := by
    show Value.ref (if M.1.length < M.1.length then E.2 M.1.length else if M.1.length = M.1.length then (H.size, cA) else _).1 = _
    rw [if_neg (Nat.lt_irrefl _), if_pos rfl]
  rw [e1] at hw
  exact hw
end ABM
