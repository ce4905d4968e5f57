/-! the reference: all LAWFUL MOVES, kept as a list -/
def md_at (h : Nat → Nat → Int32) (P_ : Nat) (l : List Nat) : Prop := ∀ j (hj : j < l.length), h 44 (P_ + j) = nI l[j]
def md_f44 (P_ : Nat) (h h' : Nat → Nat → Int32) : Prop := (∀ a, a ≠ 44 → h' a = h a) ∧ ∀ b, (b < P_ ∨ P_ + 150 ≤ b) → h' 44 b = h 44 b
theorem md_f44_refl (P_ : Nat) (h : Nat → Nat → Int32) : md_f44 P_ h h := ⟨fun _ _ => rfl, fun _ _ => rfl⟩
theorem md_f44_put {P_ : Nat} {h hh : Nat → Nat → Int32} (H : md_f44 P_ h hh) {j : Nat} (hj : j < 150) (v : Int32) : md_f44 P_ h (ab_u2 hh 44 (P_ + j) v) := by
  constructor
  · intro a ha
    rw [← H.1 a ha]
    funext b
    exact if_neg (fun z => ha z.1)
  · intro b hb
    rw [← H.2 b hb]
    exact if_neg (fun z => by omega)
theorem md_at_put {P_ : Nat} {hh : Nat → Nat → Int32} {l0 : List Nat} (H : md_at hh P_ l0) (a : Nat) : md_at (ab_u2 hh 44 (P_ + l0.length) (nI a)) P_ (l0 ++ [a]) := by
  intro j hj
  by_cases e : j < l0.length
  · rw [List.getElem_append_left e, ← H j e]
    exact if_neg (fun z => by omega)
  · have e2 : j = l0.length := by
      rw [List.length_append] at hj
      have : [a].length = 1 := rfl
      omega
    subst e2
    rw [List.getElem_append_right (Nat.le_refl _)]
    simp only [Nat.sub_self, List.getElem_cons_zero]
    exact if_pos ⟨rfl, rfl⟩
theorem md_at_nil (h : Nat → Nat → Int32) (P_ : Nat) : md_at h P_ [] := fun j hj => absurd hj (Nat.not_lt_zero j)
theorem md_len (l : List Nat) (a : Nat) : (l ++ [a]).length = l.length + 1 := by simp
theorem md_r12_le (f : Nat → Bool) (g : Nat → Nat) : ∀ n q, (sp_r12 f g n q).length ≤ n
  | 0, q => Nat.le_refl 0
  | n + 1, q => by
    rw [sp_r12]
    have h1 := md_r12_le f g n (q + 1)
    split
    · rw [List.length_cons]; omega
    · omega
theorem md_r12_lt (f : Nat → Bool) (g : Nat → Nat) {p : Nat} (hp : f p = false) : ∀ n q, q ≤ p → p < q + n → (sp_r12 f g n q).length + 1 ≤ n
  | 0, q, h1, h2 => by omega
  | n + 1, q, h1, h2 => by
    rw [sp_r12]
    by_cases e : q = p
    · rw [e, hp, if_neg (by decide)]
      have := md_r12_le f g n (p + 1)
      omega
    · have h3 := md_r12_lt f g hp n (q + 1) (by omega) (by omega)
      split
      · rw [List.length_cons]; omega
      · omega
theorem md_r12_0 (g : Nat → Nat) : ∀ n q, sp_r12 (fun q => (0 : Nat).testBit q) g n q = []
  | 0, q => rfl
  | n + 1, q => by
    rw [sp_r12, if_neg (by rw [Nat.zero_testBit]; decide)]
    exact md_r12_0 g n (q + 1)
theorem md_mp0 {T : Nat → Nat → Nat} {v m i p : Nat} (h : sp_tg T v m i p = 0) : sp_mp T v m i p = [] := by
  unfold sp_mp
  rw [h]
  exact md_r12_0 _ 12 0
theorem md_tg12 {T : Nat → Nat → Nat} {v m i p : Nat} (h : 12 ≤ p) (h2 : p < 15) : sp_tg T v m i p = 0 := by
  unfold sp_tg
  rw [if_neg (by omega), if_neg (fun z => by omega)]
theorem md_mp_le {T : Nat → Nat → Nat} {v m i p : Nat} (hp : p < 12) : (sp_mp T v m i p).length ≤ 11 := by
  cases hb : m.testBit p with
  | false => rw [md_mp0 (md_tgn hp hb)]; exact Nat.zero_le _
  | true =>
    have h1 : (sp_tg T v m i p).testBit p = false := by
      unfold sp_tg
      rw [if_neg (by omega), if_pos ⟨hp, hb⟩, Nat.testBit_and, ab_no_bit _ hp, Nat.testBit_or m i, hb]
      simp
    have := md_r12_lt (fun q => (sp_tg T v m i p).testBit q) (fun q => 16 * p + q) h1 12 0 (by omega) (by omega)
    unfold sp_mp
    omega
theorem md_ml_le (T : Nat → Nat → Nat) (v m i : Nat) : (sp_ml T v m i).length ≤ 144 := by
  have h := fun p (hp : p < 12) => md_mp_le (T := T) (v := v) (m := m) (i := i) hp
  have h0 := h 0 (by decide)
  have h1 := h 1 (by decide)
  have h2 := h 2 (by decide)
  have h3 := h 3 (by decide)
  have h4 := h 4 (by decide)
  have h5 := h 5 (by decide)
  have h6 := h 6 (by decide)
  have h7 := h 7 (by decide)
  have h8 := h 8 (by decide)
  have h9 := h 9 (by decide)
  have h10 := h 10 (by decide)
  have h11 := h 11 (by decide)
  have h12 : sp_mp T v m i 12 = [] := md_mp0 (md_tg12 (by decide) (by decide))
  have h13 : sp_mp T v m i 13 = [] := md_mp0 (md_tg12 (by decide) (by decide))
  have h14 : sp_mp T v m i 14 = [] := md_mp0 (md_tg12 (by decide) (by decide))
  have h15 : (sp_mp T v m i 15).length ≤ 12 := md_r12_le _ _ 12 0
  rw [show sp_ml T v m i = (sp_mp T v m i 0 ++ (sp_mp T v m i 1 ++ (sp_mp T v m i 2 ++ (sp_mp T v m i 3 ++ (sp_mp T v m i 4 ++ (sp_mp T v m i 5 ++ (sp_mp T v m i 6 ++ (sp_mp T v m i 7 ++ (sp_mp T v m i 8 ++ (sp_mp T v m i 9 ++ (sp_mp T v m i 10 ++ (sp_mp T v m i 11 ++ (sp_mp T v m i 12 ++ (sp_mp T v m i 13 ++ (sp_mp T v m i 14 ++ (sp_mp T v m i 15 ++ [])))))))))))))))) from rfl, h12, h13, h14]
  simp only [List.length_append, List.length_nil]
  omega
theorem md_ml0 {T : Nat → Nat → Nat} {c m i : Nat} (h : sp_few c m = true) : sp_ml T (sp_lv T c m i) m i = [] := by
  have e : ∀ p, sp_mp T 0 m i p = [] := fun p => md_mp0 (sp_tg_0 ..)
  rw [md_v0 h]
  unfold sp_ml
  simp only [sp_r16, e]
  rfl
theorem md_r1612 {T : Nat → Nat → Nat} {v m i : Nat} : sp_r16 (sp_mp T v m i) 4 12 = sp_mp T v m i 15 := by
  have h12 : sp_mp T v m i 12 = [] := md_mp0 (md_tg12 (by decide) (by decide))
  have h13 : sp_mp T v m i 13 = [] := md_mp0 (md_tg12 (by decide) (by decide))
  have h14 : sp_mp T v m i 14 = [] := md_mp0 (md_tg12 (by decide) (by decide))
  simp only [sp_r16, h12, h13, h14, List.nil_append, List.append_nil]
theorem md_mp15 {T : Nat → Nat → Nat} {c m i : Nat} (h : sp_few c m = false) : sp_mp T (sp_lv T c m i) m i 15 = if c.testBit 6 = true ∧ md_J T c m i = false then sp_r12 (fun q => (ab_no (m ||| i)).testBit q) (fun q => 240 + q) 12 0 else [] := by
  unfold sp_mp
  have e : sp_tg T (sp_lv T c m i) m i 15 = if c.testBit 6 = true ∧ md_J T c m i = false then ab_no (m ||| i) else 0 := by
    unfold sp_tg
    rw [if_pos rfl, md_v6 h]
    cases c.testBit 6 <;> cases md_J T c m i <;> rfl
  rw [e]
  split
  · rfl
  · exact md_r12_0 _ 12 0
theorem md_mpJ {T : Nat → Nat → Nat} {c m i p : Nat} (h : sp_few c m = false) (hp : p < 12) (hb : m.testBit p = true) : sp_mp T (sp_lv T c m i) m i p = sp_r12 (fun q => (md_to T c m i p).testBit q) (fun q => 16 * p + q) 12 0 := by
  unfold sp_mp
  rw [md_tg h hp hb]
set_option maxHeartbeats 1000000 in
set_option maxRecDepth 10000 in
theorem lp_M_lists_put (l : Launch) (d : Nat) (nr : Nat) (h : Nat → Nat → Int32) (g : Nat → Nat → Int64) (rr : Nat → Option Nat) {T : Nat → Nat → Nat} (hTM : bo_T T h 32) (hO : sp_ok T) {c m i : Nat} (hc : c < 4096) (hm : m < 4096) (hi : i < 4096) {p0 : Nat} (hP : p0 ≤ 450) {w : Int32} : ∀ (fu_ q : Nat) (hh : Nat → Nat → Int32) (l0 : List Nat), q ≤ 12 → 12 < q + fu_ → md_f44 p0 h hh → md_at hh p0 l0 → l0 ++ sp_r12 (fun q_ => (ab_no (m ||| i)).testBit q_) (fun q_ => 240 + q_) (12 - q) q = (sp_ml T (sp_lv T c m i) m i) → ab_G l none am_M_lists (d + 3) 0 0 172 [(0, .ref 30), (1, .int (nI c)), (2, .int (nI m)), (3, .int (nI i)), (4, .int (nI p0)), (5, .int (nI l0.length)), (6, .int (nI (ab_no (m ||| i)))), (7, .int w), (8, .int (nI q))] [] (ab_S nr hh g rr) (fun (r_ : Option Value) (M' : ab_Me) => r_ = some (.int (nI (sp_ml T (sp_lv T c m i) m i).length)) ∧ ∃ h', M' = ab_S nr h' g rr ∧ md_f44 p0 h h' ∧ md_at h' p0 (sp_ml T (sp_lv T c m i) m i)) := by
  intro fu_
  induction fu_ with
  | zero => intro q hh l0 h1 h2; omega
  | succ fu_ ih =>
    intro q hh l0 hN_ hn_ hf0 hf1 hf2
    refine ab_iload de_M_lists_172 8 rfl ?_
    refine ab_bipush (v := 12) de_M_lists_174 rfl ?_
    refine ab_icmp_ge (tgt := 215) de_M_lists_176 rfl (fun c_176_1 => ?_) (fun c_176_1 => ?_)
    · have hq := ab_le_of (n := 12) (by decide) (by omega) rfl c_176_1
      refine ab_iload de_M_lists_215 5 rfl ?_
      exact ab_ret (v := some (.int (nI l0.length))) de_M_lists_217 ⟨_, rfl⟩ (by
    have e_ := hf2
    rw [sp_r12_e (by omega), List.append_nil] at e_
    exact ⟨congrArg (fun z => some (Value.int (nI (List.length z)))) e_, _, rfl, hf0, by rw [← e_]; exact hf1⟩)
    · have hq := ab_nle_of (n := 12) (by decide) (by omega) rfl c_176_1
      have or_ := sp_orlt hm hi
      have no_ := ab_no_lt (m ||| i)
      refine ab_iload de_M_lists_179 6 rfl ?_
      refine ab_iload de_M_lists_181 8 rfl ?_
      refine ab_ishr de_M_lists_183 ?_
      refine ab_top (v' := nI ((ab_no (m ||| i)) >>> q)) (ab_shr (by omega) (by omega)) ?_
      refine ab_iconst (v := 1) de_M_lists_184 rfl ?_
      refine ab_iand de_M_lists_185 ?_
      refine ab_top (v' := nI ((ab_no (m ||| i)).testBit q).toNat) ((ab_and _ 1).trans (congrArg nI (sp_bit1 _ _))) ?_
      refine ab_iconst (v := 1) de_M_lists_186 rfl ?_
      refine ab_icmp_ne (tgt := 209) de_M_lists_187 rfl (fun c_187_2 => ?_) (fun c_187_2 => ?_)
      · refine ab_iinc (v := nI (q + 1)) (L' := [(8, .int (nI (q + 1))), (0, .ref 30), (1, .int (nI c)), (2, .int (nI m)), (3, .int (nI i)), (4, .int (nI p0)), (5, .int (nI l0.length)), (6, .int (nI (ab_no (m ||| i)))), (7, .int w)]) de_M_lists_209 8 rfl (by rw [show Int32.ofInt 1 = nI 1 from rfl, ab_add]) (by decide) rfl ?_
        refine ab_goto (tgt := 172) de_M_lists_212 rfl ?_
        refine ab_sub (L' := [(0, .ref 30), (1, .int (nI c)), (2, .int (nI m)), (3, .int (nI i)), (4, .int (nI p0)), (5, .int (nI l0.length)), (6, .int (nI (ab_no (m ||| i)))), (7, .int w), (8, .int (nI (q + 1)))]) [1, 2, 3, 4, 5, 6, 7, 8, 0] rfl ?_
        exact ih (q + 1) hh l0 (by omega) (by omega) (hf0) (hf1) (by rw [← sp_r12_f (f := (fun q_ => (ab_no (m ||| i)).testBit q_)) (g := (fun q_ => 240 + q_)) hq (sp_b1n c_187_2)]; exact hf2)
      · have hb_ := (sp_b1 _).mp c_187_2
        have e1_ := hf2
        rw [sp_r12_t (f := (fun q_ => (ab_no (m ||| i)).testBit q_)) (g := (fun q_ => 240 + q_)) hq hb_] at e1_
        have n1_ : l0.length + 1 ≤ 144 := by
          have n2_ := md_ml_le T (sp_lv T c m i) m i
          rw [← e1_] at n2_
          simp only [List.length_append, List.cons_append, List.length_cons] at n2_
          omega
        refine ab_aload_n de_M_lists_190 0 rfl ?_
        refine ab_get (v := .ref 44) fl_M_54 rfl rfl de_M_lists_191 ?_
        refine ab_iload de_M_lists_194 4 rfl ?_
        refine ab_iload de_M_lists_196 5 rfl ?_
        refine ab_iinc (v := nI (l0.length + 1)) (L' := [(5, .int (nI (l0.length + 1))), (0, .ref 30), (1, .int (nI c)), (2, .int (nI m)), (3, .int (nI i)), (4, .int (nI p0)), (6, .int (nI (ab_no (m ||| i)))), (7, .int w), (8, .int (nI q))]) de_M_lists_198 5 rfl (by rw [show Int32.ofInt 1 = nI 1 from rfl, ab_add]) (by decide) rfl ?_
        refine ab_iadd de_M_lists_201 ?_
        refine ab_top (v' := nI (p0 + l0.length)) (ab_add _ _) ?_
        refine ab_sipush (v := 240) de_M_lists_202 rfl ?_
        refine ab_iload de_M_lists_205 8 rfl ?_
        refine ab_iadd de_M_lists_207 ?_
        refine ab_top (v' := nI (240 + q)) (ab_add _ _) ?_
        refine ab_iast (x := 44) rfl (ab_in (by omega) (by decide)) de_M_lists_208 ?_
        rw [(ab_tn (n := (p0 + l0.length)) (by omega))]
        change ab_G _ _ _ _ _ _ _ _ _ (ab_S nr (ab_u2 hh 44 (p0 + l0.length) (nI (240 + q))) g rr) _
        refine ab_iinc (v := nI (q + 1)) (L' := [(8, .int (nI (q + 1))), (5, .int (nI (l0.length + 1))), (0, .ref 30), (1, .int (nI c)), (2, .int (nI m)), (3, .int (nI i)), (4, .int (nI p0)), (6, .int (nI (ab_no (m ||| i)))), (7, .int w)]) de_M_lists_209 8 rfl (by rw [show Int32.ofInt 1 = nI 1 from rfl, ab_add]) (by decide) rfl ?_
        refine ab_goto (tgt := 172) de_M_lists_212 rfl ?_
        refine ab_sub (L' := [(0, .ref 30), (1, .int (nI c)), (2, .int (nI m)), (3, .int (nI i)), (4, .int (nI p0)), (5, .int (nI (l0.length + 1))), (6, .int (nI (ab_no (m ||| i)))), (7, .int w), (8, .int (nI (q + 1)))]) [2, 3, 4, 5, 6, 1, 7, 8, 0] rfl ?_
        have z_ := ih (q + 1) _ (l0 ++ [((fun q_ => 240 + q_)) q]) (by omega) (by omega) (md_f44_put hf0 (j := l0.length) (by omega) (nI (((fun q_ => 240 + q_)) q))) (md_at_put hf1 (((fun q_ => 240 + q_)) q)) (by rw [List.append_assoc]; exact e1_)
        rw [md_len] at z_
        exact z_
set_option maxHeartbeats 1000000 in
set_option maxRecDepth 10000 in
theorem lp_M_lists_q (l : Launch) (d : Nat) (nr : Nat) (h : Nat → Nat → Int32) (g : Nat → Nat → Int64) (rr : Nat → Option Nat) {T : Nat → Nat → Nat} (hTM : bo_T T h 32) (hO : sp_ok T) {c m i : Nat} (hc : c < 4096) (hm : m < 4096) (hi : i < 4096) {p0 : Nat} (hP : p0 ≤ 450) {w : Int32} {p : Nat} (hp : p < 12) {R : List Nat} {K : Option Value → ab_Me → Prop} (kx : ∀ (hh : Nat → Nat → Int32) (l0 : List Nat), md_f44 p0 h hh → md_at hh p0 l0 → l0 ++ R = (sp_ml T (sp_lv T c m i) m i) → ab_G l none am_M_lists (d + 3) 0 0 151 [(0, .ref 30), (1, .int (nI c)), (2, .int (nI m)), (3, .int (nI i)), (4, .int (nI p0)), (5, .int (nI l0.length)), (6, .int (nI (ab_no (m ||| i)))), (7, .int w), (8, .int (nI p))] [] (ab_S nr hh g rr) (K)) : ∀ (fu_ q : Nat) (hh : Nat → Nat → Int32) (l0 : List Nat), q ≤ 12 → 12 < q + fu_ → md_f44 p0 h hh → md_at hh p0 l0 → l0 ++ (sp_r12 (fun q_ => (md_to T c m i p).testBit q_) (fun q_ => 16 * p + q_) (12 - q) q ++ R) = (sp_ml T (sp_lv T c m i) m i) → ab_G l none am_M_lists (d + 3) 0 0 106 [(0, .ref 30), (1, .int (nI c)), (2, .int (nI m)), (3, .int (nI i)), (4, .int (nI p0)), (5, .int (nI l0.length)), (6, .int (nI (ab_no (m ||| i)))), (7, .int w), (8, .int (nI p)), (9, .int (nI (md_to T c m i p))), (10, .int (nI q))] [] (ab_S nr hh g rr) (K) := by
  intro fu_
  induction fu_ with
  | zero => intro q hh l0 h1 h2; omega
  | succ fu_ ih =>
    intro q hh l0 hN_ hn_ hf0 hf1 hf2
    refine ab_iload de_M_lists_106 10 rfl ?_
    refine ab_bipush (v := 12) de_M_lists_108 rfl ?_
    refine ab_icmp_ge (tgt := 151) de_M_lists_110 rfl (fun c_110_1 => ?_) (fun c_110_1 => ?_)
    · have hq := ab_le_of (n := 12) (by decide) (by omega) rfl c_110_1
      refine ab_sub (L' := [(0, .ref 30), (1, .int (nI c)), (2, .int (nI m)), (3, .int (nI i)), (4, .int (nI p0)), (5, .int (nI l0.length)), (6, .int (nI (ab_no (m ||| i)))), (7, .int w), (8, .int (nI p))]) [0, 1, 2, 3, 4, 5, 6, 7, 8] rfl ?_
      exact kx hh l0 hf0 hf1 (by rw [← hf2, sp_r12_e (by omega), List.nil_append])
    · have hq := ab_nle_of (n := 12) (by decide) (by omega) rfl c_110_1
      have or_ := sp_orlt hm hi
      have no_ := ab_no_lt (m ||| i)
      have to_ := @md_to_lt T c m i p
      refine ab_iload de_M_lists_113 9 rfl ?_
      refine ab_iload de_M_lists_115 10 rfl ?_
      refine ab_ishr de_M_lists_117 ?_
      refine ab_top (v' := nI ((md_to T c m i p) >>> q)) (ab_shr (by omega) (by omega)) ?_
      refine ab_iconst (v := 1) de_M_lists_118 rfl ?_
      refine ab_iand de_M_lists_119 ?_
      refine ab_top (v' := nI ((md_to T c m i p).testBit q).toNat) ((ab_and _ 1).trans (congrArg nI (sp_bit1 _ _))) ?_
      refine ab_iconst (v := 1) de_M_lists_120 rfl ?_
      refine ab_icmp_ne (tgt := 145) de_M_lists_121 rfl (fun c_121_2 => ?_) (fun c_121_2 => ?_)
      · refine ab_iinc (v := nI (q + 1)) (L' := [(10, .int (nI (q + 1))), (0, .ref 30), (1, .int (nI c)), (2, .int (nI m)), (3, .int (nI i)), (4, .int (nI p0)), (5, .int (nI l0.length)), (6, .int (nI (ab_no (m ||| i)))), (7, .int w), (8, .int (nI p)), (9, .int (nI (md_to T c m i p)))]) de_M_lists_145 10 rfl (by rw [show Int32.ofInt 1 = nI 1 from rfl, ab_add]) (by decide) rfl ?_
        refine ab_goto (tgt := 106) de_M_lists_148 rfl ?_
        refine ab_sub (L' := [(0, .ref 30), (1, .int (nI c)), (2, .int (nI m)), (3, .int (nI i)), (4, .int (nI p0)), (5, .int (nI l0.length)), (6, .int (nI (ab_no (m ||| i)))), (7, .int w), (8, .int (nI p)), (9, .int (nI (md_to T c m i p))), (10, .int (nI (q + 1)))]) [1, 2, 3, 4, 5, 6, 7, 8, 9, 10, 0] rfl ?_
        exact ih (q + 1) hh l0 (by omega) (by omega) (hf0) (hf1) (by rw [← sp_r12_f (f := (fun q_ => (md_to T c m i p).testBit q_)) (g := (fun q_ => 16 * p + q_)) hq (sp_b1n c_121_2)]; exact hf2)
      · have hb_ := (sp_b1 _).mp c_121_2
        have e1_ := hf2
        rw [sp_r12_t (f := (fun q_ => (md_to T c m i p).testBit q_)) (g := (fun q_ => 16 * p + q_)) hq hb_] at e1_
        have n1_ : l0.length + 1 ≤ 144 := by
          have n2_ := md_ml_le T (sp_lv T c m i) m i
          rw [← e1_] at n2_
          simp only [List.length_append, List.cons_append, List.length_cons] at n2_
          omega
        refine ab_aload_n de_M_lists_124 0 rfl ?_
        refine ab_get (v := .ref 44) fl_M_54 rfl rfl de_M_lists_125 ?_
        refine ab_iload de_M_lists_128 4 rfl ?_
        refine ab_iload de_M_lists_130 5 rfl ?_
        refine ab_iinc (v := nI (l0.length + 1)) (L' := [(5, .int (nI (l0.length + 1))), (0, .ref 30), (1, .int (nI c)), (2, .int (nI m)), (3, .int (nI i)), (4, .int (nI p0)), (6, .int (nI (ab_no (m ||| i)))), (7, .int w), (8, .int (nI p)), (9, .int (nI (md_to T c m i p))), (10, .int (nI q))]) de_M_lists_132 5 rfl (by rw [show Int32.ofInt 1 = nI 1 from rfl, ab_add]) (by decide) rfl ?_
        refine ab_iadd de_M_lists_135 ?_
        refine ab_top (v' := nI (p0 + l0.length)) (ab_add _ _) ?_
        refine ab_bipush (v := 16) de_M_lists_136 rfl ?_
        refine ab_iload de_M_lists_138 8 rfl ?_
        refine ab_imul de_M_lists_140 ?_
        refine ab_top (v' := nI (16 * p)) (ab_mul _ _) ?_
        refine ab_iload de_M_lists_141 10 rfl ?_
        refine ab_iadd de_M_lists_143 ?_
        refine ab_top (v' := nI ((16 * p) + q)) (ab_add _ _) ?_
        refine ab_iast (x := 44) rfl (ab_in (by omega) (by decide)) de_M_lists_144 ?_
        rw [(ab_tn (n := (p0 + l0.length)) (by omega))]
        change ab_G _ _ _ _ _ _ _ _ _ (ab_S nr (ab_u2 hh 44 (p0 + l0.length) (nI ((16 * p) + q))) g rr) _
        refine ab_iinc (v := nI (q + 1)) (L' := [(10, .int (nI (q + 1))), (5, .int (nI (l0.length + 1))), (0, .ref 30), (1, .int (nI c)), (2, .int (nI m)), (3, .int (nI i)), (4, .int (nI p0)), (6, .int (nI (ab_no (m ||| i)))), (7, .int w), (8, .int (nI p)), (9, .int (nI (md_to T c m i p)))]) de_M_lists_145 10 rfl (by rw [show Int32.ofInt 1 = nI 1 from rfl, ab_add]) (by decide) rfl ?_
        refine ab_goto (tgt := 106) de_M_lists_148 rfl ?_
        refine ab_sub (L' := [(0, .ref 30), (1, .int (nI c)), (2, .int (nI m)), (3, .int (nI i)), (4, .int (nI p0)), (5, .int (nI (l0.length + 1))), (6, .int (nI (ab_no (m ||| i)))), (7, .int w), (8, .int (nI p)), (9, .int (nI (md_to T c m i p))), (10, .int (nI (q + 1)))]) [2, 3, 4, 5, 6, 1, 7, 8, 9, 10, 0] rfl ?_
        have z_ := ih (q + 1) _ (l0 ++ [((fun q_ => 16 * p + q_)) q]) (by omega) (by omega) (md_f44_put hf0 (j := l0.length) (by omega) (nI (((fun q_ => 16 * p + q_)) q))) (md_at_put hf1 (((fun q_ => 16 * p + q_)) q)) (by rw [List.append_assoc]; exact e1_)
        rw [md_len] at z_
        exact z_
set_option maxHeartbeats 1000000 in
set_option maxRecDepth 10000 in
theorem lp_M_lists_p (l : Launch) (d : Nat) (nr : Nat) (h : Nat → Nat → Int32) (g : Nat → Nat → Int64) (rr : Nat → Option Nat) {T : Nat → Nat → Nat} (hTM : bo_T T h 32) (hO : sp_ok T) {c m i : Nat} (hc : c < 4096) (hm : m < 4096) (hi : i < 4096) {p0 : Nat} (hP : p0 ≤ 450) {w : Int32} (hF : sp_few c m = false) (hw : w = ab_bz (md_J T c m i)) {K : Option Value → ab_Me → Prop} (kx : ∀ (hh : Nat → Nat → Int32) (l0 : List Nat), md_f44 p0 h hh → md_at hh p0 l0 → l0 ++ sp_mp T (sp_lv T c m i) m i 15 = (sp_ml T (sp_lv T c m i) m i) → ab_G l none am_M_lists (d + 3) 0 0 157 [(0, .ref 30), (1, .int (nI c)), (2, .int (nI m)), (3, .int (nI i)), (4, .int (nI p0)), (5, .int (nI l0.length)), (6, .int (nI (ab_no (m ||| i)))), (7, .int w)] [] (ab_S nr hh g rr) (K)) : ∀ (fu_ p : Nat) (hh : Nat → Nat → Int32) (l0 : List Nat), p ≤ 12 → 12 < p + fu_ → md_f44 p0 h hh → md_at hh p0 l0 → l0 ++ sp_r16 (sp_mp T (sp_lv T c m i) m i) (16 - p) p = (sp_ml T (sp_lv T c m i) m i) → ab_G l none am_M_lists (d + 3) 0 0 53 [(0, .ref 30), (1, .int (nI c)), (2, .int (nI m)), (3, .int (nI i)), (4, .int (nI p0)), (5, .int (nI l0.length)), (6, .int (nI (ab_no (m ||| i)))), (7, .int w), (8, .int (nI p))] [] (ab_S nr hh g rr) (K) := by
  intro fu_
  induction fu_ with
  | zero => intro p hh l0 h1 h2; omega
  | succ fu_ ih =>
    intro p hh l0 hN_ hn_ hf0 hf1 hf2
    refine ab_iload de_M_lists_53 8 rfl ?_
    refine ab_bipush (v := 12) de_M_lists_55 rfl ?_
    refine ab_icmp_ge (tgt := 157) de_M_lists_57 rfl (fun c_57_1 => ?_) (fun c_57_1 => ?_)
    · have hp := ab_le_of (n := 12) (by decide) (by omega) rfl c_57_1
      refine ab_sub (L' := [(0, .ref 30), (1, .int (nI c)), (2, .int (nI m)), (3, .int (nI i)), (4, .int (nI p0)), (5, .int (nI l0.length)), (6, .int (nI (ab_no (m ||| i)))), (7, .int w)]) [0, 1, 2, 3, 4, 5, 6, 7] rfl ?_
      exact kx hh l0 hf0 hf1 (by rw [← md_r1612, ← hf2, show p = 12 by omega])
    · have hp := ab_nle_of (n := 12) (by decide) (by omega) rfl c_57_1
      have or_ := sp_orlt hm hi
      have no_ := ab_no_lt (m ||| i)
      have hTM0_ := hTM
      have hTM := bo_T_fr (hf0.1 32 (by decide)) hTM0_
      refine ab_iload_n de_M_lists_60 2 rfl ?_
      refine ab_iload de_M_lists_61 8 rfl ?_
      refine ab_ishr de_M_lists_63 ?_
      refine ab_top (v' := nI (m >>> p)) (ab_shr (by omega) (by omega)) ?_
      refine ab_iconst (v := 1) de_M_lists_64 rfl ?_
      refine ab_iand de_M_lists_65 ?_
      refine ab_top (v' := nI (m.testBit p).toNat) ((ab_and _ 1).trans (congrArg nI (sp_bit1 _ _))) ?_
      refine ab_if_ne (tgt := 72) de_M_lists_66 rfl (fun c_66_2 => ?_) (fun c_66_2 => ?_)
      · refine ab_aload_n de_M_lists_72 0 rfl ?_
        refine ab_iload_n de_M_lists_73 1 rfl ?_
        refine ab_iload de_M_lists_74 8 rfl ?_
        refine ab_iload_n de_M_lists_76 3 rfl ?_
        refine ab_iload de_M_lists_77 6 rfl ?_
        refine ab_cV (as := [.int (nI c), .int (nI p), .int (nI i), .int (nI (ab_no (m ||| i)))]) (st := []) (ct_M_jumpsFrom l _ nr hh g rr hTM hO (c := c) (p := p) (i := i) (e := (ab_no (m ||| i))) hc (by omega) hi) mo_M_jumpsFrom mi_M_jumpsFrom ml_M_180 rfl (by decide) rfl rfl rfl (Nat.le_of_ble_eq_true rfl) de_M_lists_79 (fun v_ M_ hK_ hl_ hv_ => ?_)
        obtain ⟨rfl, hm_⟩ := hK_
        have hm_ := hm_.symm
        subst hm_
        change ab_G _ _ _ _ _ _ _ [(0, .ref 30), (1, .int (nI c)), (2, .int (nI m)), (3, .int (nI i)), (4, .int (nI p0)), (5, .int (nI l0.length)), (6, .int (nI (ab_no (m ||| i)))), (7, .int w), (8, .int (nI p))] [.int (nI (sp_jm T c i p &&& (ab_no (m ||| i))))] (ab_S nr hh g rr) _
        refine ab_iload de_M_lists_82 7 rfl ?_
        refine ab_if_eq (tgt := 91) de_M_lists_84 rfl (fun c_84_3 => ?_) (fun c_84_3 => ?_)
        · refine ab_aload_n de_M_lists_91 0 rfl ?_
          refine ab_iload_n de_M_lists_92 1 rfl ?_
          refine ab_iload de_M_lists_93 8 rfl ?_
          refine ab_iload de_M_lists_95 6 rfl ?_
          refine ab_cV (as := [.int (nI c), .int (nI p), .int (nI (ab_no (m ||| i)))]) (st := [.int (nI (sp_jm T c i p &&& (ab_no (m ||| i))))]) (ct_M_stepsFrom l _ nr hh g rr hTM hO (c := c) (p := p) (e := (ab_no (m ||| i))) hc (by omega)) mo_M_stepsFrom mi_M_stepsFrom ml_M_184 rfl (by decide) rfl rfl rfl (Nat.le_of_ble_eq_true rfl) de_M_lists_97 (fun v_ M_ hK_ hl_ hv_ => ?_)
          obtain ⟨rfl, hm_⟩ := hK_
          have hm_ := hm_.symm
          subst hm_
          change ab_G _ _ _ _ _ _ _ [(0, .ref 30), (1, .int (nI c)), (2, .int (nI m)), (3, .int (nI i)), (4, .int (nI p0)), (5, .int (nI l0.length)), (6, .int (nI (ab_no (m ||| i)))), (7, .int w), (8, .int (nI p))] [.int (nI (sp_st T c p &&& (ab_no (m ||| i)))), .int (nI (sp_jm T c i p &&& (ab_no (m ||| i))))] (ab_S nr hh g rr) _
          refine ab_ior de_M_lists_100 ?_
          refine ab_top (v' := nI (md_to T c m i p)) ((ab_or _ _).trans (congrArg nI (by unfold md_to; rw [if_neg (by rw [(ab_bz0 _).mp (hw.symm.trans c_84_3)]; decide)]))) ?_
          refine ab_istore (L' := [(9, .int (nI (md_to T c m i p))), (0, .ref 30), (1, .int (nI c)), (2, .int (nI m)), (3, .int (nI i)), (4, .int (nI p0)), (5, .int (nI l0.length)), (6, .int (nI (ab_no (m ||| i)))), (7, .int w), (8, .int (nI p))]) de_M_lists_101 (by decide) rfl ?_
          refine ab_iconst (v := 0) de_M_lists_103 rfl ?_
          refine ab_istore (L' := [(10, .int (0 : Int32)), (9, .int (nI (md_to T c m i p))), (0, .ref 30), (1, .int (nI c)), (2, .int (nI m)), (3, .int (nI i)), (4, .int (nI p0)), (5, .int (nI l0.length)), (6, .int (nI (ab_no (m ||| i)))), (7, .int w), (8, .int (nI p))]) de_M_lists_104 (by decide) rfl ?_
          refine ab_sub (L' := [(0, .ref 30), (1, .int (nI c)), (2, .int (nI m)), (3, .int (nI i)), (4, .int (nI p0)), (5, .int (nI l0.length)), (6, .int (nI (ab_no (m ||| i)))), (7, .int w), (8, .int (nI p)), (9, .int (nI (md_to T c m i p))), (10, .int (nI 0))]) [2, 3, 4, 5, 6, 7, 8, 9, 10, 1, 0] rfl ?_
          refine lp_M_lists_q l d nr h g rr hTM0_ hO hc hm hi hP hp (R := sp_r16 (sp_mp T (sp_lv T c m i) m i) (16 - (p + 1)) (p + 1)) (fun hh l0 hf0 hf1 hf2 => ?_) 13 0 hh l0 (by omega) (by omega) hf0 hf1 (by rw [← md_mpJ hF hp (ts_f c_66_2), ← sp_r16_s (by omega)]; exact hf2)
          refine ab_iinc (v := nI (p + 1)) (L' := [(8, .int (nI (p + 1))), (0, .ref 30), (1, .int (nI c)), (2, .int (nI m)), (3, .int (nI i)), (4, .int (nI p0)), (5, .int (nI l0.length)), (6, .int (nI (ab_no (m ||| i)))), (7, .int w)]) de_M_lists_151 8 rfl (by rw [show Int32.ofInt 1 = nI 1 from rfl, ab_add]) (by decide) rfl ?_
          refine ab_goto (tgt := 53) de_M_lists_154 rfl ?_
          refine ab_sub (L' := [(0, .ref 30), (1, .int (nI c)), (2, .int (nI m)), (3, .int (nI i)), (4, .int (nI p0)), (5, .int (nI l0.length)), (6, .int (nI (ab_no (m ||| i)))), (7, .int w), (8, .int (nI (p + 1)))]) [1, 2, 3, 4, 5, 6, 7, 8, 0] rfl ?_
          exact ih (p + 1) hh l0 (by omega) (by omega) hf0 hf1 hf2
        · refine ab_iconst (v := 0) de_M_lists_87 rfl ?_
          refine ab_goto (tgt := 100) de_M_lists_88 rfl ?_
          refine ab_ior de_M_lists_100 ?_
          refine ab_top (v' := nI (md_to T c m i p)) ((ab_or _ 0).trans (congrArg nI (by unfold md_to; rw [if_pos ((ab_bz1 _).mp (fun z => c_84_3 (hw.trans z)))]))) ?_
          refine ab_istore (L' := [(9, .int (nI (md_to T c m i p))), (0, .ref 30), (1, .int (nI c)), (2, .int (nI m)), (3, .int (nI i)), (4, .int (nI p0)), (5, .int (nI l0.length)), (6, .int (nI (ab_no (m ||| i)))), (7, .int w), (8, .int (nI p))]) de_M_lists_101 (by decide) rfl ?_
          refine ab_iconst (v := 0) de_M_lists_103 rfl ?_
          refine ab_istore (L' := [(10, .int (0 : Int32)), (9, .int (nI (md_to T c m i p))), (0, .ref 30), (1, .int (nI c)), (2, .int (nI m)), (3, .int (nI i)), (4, .int (nI p0)), (5, .int (nI l0.length)), (6, .int (nI (ab_no (m ||| i)))), (7, .int w), (8, .int (nI p))]) de_M_lists_104 (by decide) rfl ?_
          refine ab_sub (L' := [(0, .ref 30), (1, .int (nI c)), (2, .int (nI m)), (3, .int (nI i)), (4, .int (nI p0)), (5, .int (nI l0.length)), (6, .int (nI (ab_no (m ||| i)))), (7, .int w), (8, .int (nI p)), (9, .int (nI (md_to T c m i p))), (10, .int (nI 0))]) [2, 3, 4, 5, 6, 7, 8, 9, 10, 1, 0] rfl ?_
          refine lp_M_lists_q l d nr h g rr hTM0_ hO hc hm hi hP hp (R := sp_r16 (sp_mp T (sp_lv T c m i) m i) (16 - (p + 1)) (p + 1)) (fun hh l0 hf0 hf1 hf2 => ?_) 13 0 hh l0 (by omega) (by omega) hf0 hf1 (by rw [← md_mpJ hF hp (ts_f c_66_2), ← sp_r16_s (by omega)]; exact hf2)
          refine ab_iinc (v := nI (p + 1)) (L' := [(8, .int (nI (p + 1))), (0, .ref 30), (1, .int (nI c)), (2, .int (nI m)), (3, .int (nI i)), (4, .int (nI p0)), (5, .int (nI l0.length)), (6, .int (nI (ab_no (m ||| i)))), (7, .int w)]) de_M_lists_151 8 rfl (by rw [show Int32.ofInt 1 = nI 1 from rfl, ab_add]) (by decide) rfl ?_
          refine ab_goto (tgt := 53) de_M_lists_154 rfl ?_
          refine ab_sub (L' := [(0, .ref 30), (1, .int (nI c)), (2, .int (nI m)), (3, .int (nI i)), (4, .int (nI p0)), (5, .int (nI l0.length)), (6, .int (nI (ab_no (m ||| i)))), (7, .int w), (8, .int (nI (p + 1)))]) [1, 2, 3, 4, 5, 6, 7, 8, 0] rfl ?_
          exact ih (p + 1) hh l0 (by omega) (by omega) hf0 hf1 hf2
      · refine ab_goto (tgt := 151) de_M_lists_69 rfl ?_
        refine ab_iinc (v := nI (p + 1)) (L' := [(8, .int (nI (p + 1))), (0, .ref 30), (1, .int (nI c)), (2, .int (nI m)), (3, .int (nI i)), (4, .int (nI p0)), (5, .int (nI l0.length)), (6, .int (nI (ab_no (m ||| i)))), (7, .int w)]) de_M_lists_151 8 rfl (by rw [show Int32.ofInt 1 = nI 1 from rfl, ab_add]) (by decide) rfl ?_
        refine ab_goto (tgt := 53) de_M_lists_154 rfl ?_
        refine ab_sub (L' := [(0, .ref 30), (1, .int (nI c)), (2, .int (nI m)), (3, .int (nI i)), (4, .int (nI p0)), (5, .int (nI l0.length)), (6, .int (nI (ab_no (m ||| i)))), (7, .int w), (8, .int (nI (p + 1)))]) [1, 2, 3, 4, 5, 6, 7, 8, 0] rfl ?_
        exact ih (p + 1) hh l0 (by omega) (by omega) (hf0) (hf1) (by rw [sp_r16_s (by omega), md_mp0 (md_tgn hp ((sp_b0 _).mp c_66_2)), List.nil_append] at hf2; exact hf2)
set_option maxHeartbeats 1000000 in
set_option maxRecDepth 10000 in
theorem st_M_lists_157 (l : Launch) (d : Nat) (nr : Nat) (h : Nat → Nat → Int32) (g : Nat → Nat → Int64) (rr : Nat → Option Nat) {T : Nat → Nat → Nat} (hTM : bo_T T h 32) (hO : sp_ok T) {c m i : Nat} (hc : c < 4096) (hm : m < 4096) (hi : i < 4096) {p0 : Nat} (hP : p0 ≤ 450) {w : Int32} (hF : sp_few c m = false) (hw : w = ab_bz (md_J T c m i)) (hh : Nat → Nat → Int32) (l0 : List Nat) (hf0 : md_f44 p0 h hh) (hf1 : md_at hh p0 l0) (hf2 : l0 ++ sp_mp T (sp_lv T c m i) m i 15 = (sp_ml T (sp_lv T c m i) m i)) : ab_G l none am_M_lists (d + 3) 0 0 157 [(0, .ref 30), (1, .int (nI c)), (2, .int (nI m)), (3, .int (nI i)), (4, .int (nI p0)), (5, .int (nI l0.length)), (6, .int (nI (ab_no (m ||| i)))), (7, .int w)] [] (ab_S nr hh g rr) (fun (r_ : Option Value) (M' : ab_Me) => r_ = some (.int (nI (sp_ml T (sp_lv T c m i) m i).length)) ∧ ∃ h', M' = ab_S nr h' g rr ∧ md_f44 p0 h h' ∧ md_at h' p0 (sp_ml T (sp_lv T c m i) m i)) := by

  refine ab_iload_n de_M_lists_157 1 rfl ?_
  refine ab_bipush (v := 64) de_M_lists_158 rfl ?_
  refine ab_iand de_M_lists_160 ?_
  refine ab_top (v' := nI (c &&& 64)) (ab_and _ _) ?_
  refine ab_if_eq (tgt := 215) de_M_lists_161 rfl (fun c_161_1 => ?_) (fun c_161_1 => ?_)
  · refine ab_iload de_M_lists_215 5 rfl ?_
    exact ab_ret (v := some (.int (nI l0.length))) de_M_lists_217 ⟨_, rfl⟩ (by
    have e_ := hf2
    rw [md_mp15 hF, if_neg (fun z => by rw [(md_b (c := c) (k := 6) (n := 64) rfl hc).mp c_161_1] at z; cases z.1), List.append_nil] at e_
    exact ⟨congrArg (fun z => some (Value.int (nI (List.length z)))) e_, _, rfl, hf0, by rw [← e_]; exact hf1⟩)
  · refine ab_iload de_M_lists_164 7 rfl ?_
    refine ab_if_ne (tgt := 215) de_M_lists_166 rfl (fun c_166_2 => ?_) (fun c_166_2 => ?_)
    · refine ab_iload de_M_lists_215 5 rfl ?_
      exact ab_ret (v := some (.int (nI l0.length))) de_M_lists_217 ⟨_, rfl⟩ (by
    have e_ := hf2
    rw [md_mp15 hF, if_neg (fun z => by rw [(ab_bz1 _).mp (fun y => c_166_2 (hw.trans y))] at z; cases z.2), List.append_nil] at e_
    exact ⟨congrArg (fun z => some (Value.int (nI (List.length z)))) e_, _, rfl, hf0, by rw [← e_]; exact hf1⟩)
    · refine ab_iconst (v := 0) de_M_lists_169 rfl ?_
      refine ab_istore (L' := [(8, .int (0 : Int32)), (0, .ref 30), (1, .int (nI c)), (2, .int (nI m)), (3, .int (nI i)), (4, .int (nI p0)), (5, .int (nI l0.length)), (6, .int (nI (ab_no (m ||| i)))), (7, .int w)]) de_M_lists_170 (by decide) rfl ?_
      refine ab_sub (L' := [(0, .ref 30), (1, .int (nI c)), (2, .int (nI m)), (3, .int (nI i)), (4, .int (nI p0)), (5, .int (nI l0.length)), (6, .int (nI (ab_no (m ||| i)))), (7, .int w), (8, .int (nI 0))]) [1, 2, 3, 4, 5, 6, 7, 8, 0] rfl ?_
      exact lp_M_lists_put l d nr h g rr hTM hO hc hm hi hP 13 0 hh l0 (by omega) (by omega) hf0 hf1 (by
        rw [md_mp15 hF, if_pos ⟨md_bt (c := c) (k := 6) (n := 64) rfl hc c_161_1, (ab_bz0 _).mp (hw.symm.trans c_166_2)⟩] at hf2
        exact hf2)
set_option maxHeartbeats 1000000 in
set_option maxRecDepth 10000 in
theorem ct_M_lists (l : Launch) (d : Nat) (nr : Nat) (h : Nat → Nat → Int32) (g : Nat → Nat → Int64) (rr : Nat → Option Nat) {T : Nat → Nat → Nat} (hTM : bo_T T h 32) (hO : sp_ok T) {c m i : Nat} (hc : c < 4096) (hm : m < 4096) (hi : i < 4096) {p0 : Nat} (hP : p0 ≤ 450) : ab_C l am_M_lists (d + 3) 0 0 [.ref 30, .int (nI c), .int (nI m), .int (nI i), .int (nI p0)] (ab_S nr h g rr) (fun (r_ : Option Value) (M' : ab_Me) => r_ = some (.int (nI (sp_ml T (sp_lv T c m i) m i).length)) ∧ ∃ h', M' = ab_S nr h' g rr ∧ md_f44 p0 h h' ∧ md_at h' p0 (sp_ml T (sp_lv T c m i) m i)) := by
  have or_ := sp_orlt hm hi
  refine ab_C_of (by decide +kernel) rfl (Nat.le_of_ble_eq_true rfl) ?_
  refine ab_iconst (v := 0) de_M_lists_0 rfl ?_
  refine ab_istore (L' := [(5, .int (0 : Int32)), (0, .ref 30), (1, .int (nI c)), (2, .int (nI m)), (3, .int (nI i)), (4, .int (nI p0))]) de_M_lists_1 (by decide) rfl ?_
  refine ab_sipush (v := 4095) de_M_lists_3 rfl ?_
  refine ab_iload_n de_M_lists_6 3 rfl ?_
  refine ab_iload_n de_M_lists_7 4 rfl ?_
  refine ab_ior de_M_lists_8 ?_
  refine ab_top (v' := nI (m ||| i)) (ab_or _ _) ?_
  refine ab_iconst (v := -1) de_M_lists_9 rfl ?_
  refine ab_ixor de_M_lists_10 ?_
  refine ab_iand de_M_lists_11 ?_
  refine ab_top (v' := nI (ab_no (m ||| i))) (ab_not _) ?_
  refine ab_istore (L' := [(6, .int (nI (ab_no (m ||| i)))), (5, .int (0 : Int32)), (0, .ref 30), (1, .int (nI c)), (2, .int (nI m)), (3, .int (nI i)), (4, .int (nI p0))]) de_M_lists_12 (by decide) rfl ?_
  refine ab_aload_n de_M_lists_14 2 rfl ?_
  refine ab_iload_n de_M_lists_15 3 rfl ?_
  refine ab_iload_n de_M_lists_16 4 rfl ?_
  refine ab_cV (as := [.int (nI c), .int (nI m)]) (st := []) (ct_M_isFew l _ nr h g rr (c := c) (m := m) hc hm) mo_M_isFew mi_M_isFew ml_M_195 rfl (by decide) rfl rfl rfl (Nat.le_of_ble_eq_true rfl) de_M_lists_17 (fun v_ M_ hK_ hl_ hv_ => ?_)
  obtain ⟨rfl, hm_⟩ := hK_
  have hm_ := hm_.symm
  subst hm_
  change ab_G _ _ _ _ _ _ _ [(6, .int (nI (ab_no (m ||| i)))), (5, .int (0 : Int32)), (0, .ref 30), (1, .int (nI c)), (2, .int (nI m)), (3, .int (nI i)), (4, .int (nI p0))] [.int (ab_bz (sp_few c m))] (ab_S nr h g rr) _
  refine ab_if_eq (tgt := 25) de_M_lists_20 rfl (fun c_20_1 => ?_) (fun c_20_1 => ?_)
  · refine ab_iload_n de_M_lists_25 3 rfl ?_
    refine ab_sipush (v := 256) de_M_lists_26 rfl ?_
    refine ab_iand de_M_lists_29 ?_
    refine ab_top (v' := nI (c &&& 256)) (ab_and _ _) ?_
    refine ab_if_eq (tgt := 47) de_M_lists_30 rfl (fun c_30_2 => ?_) (fun c_30_2 => ?_)
    · refine ab_iconst (v := 0) de_M_lists_47 rfl ?_
      refine ab_istore (L' := [(7, .int (0 : Int32)), (6, .int (nI (ab_no (m ||| i)))), (5, .int (0 : Int32)), (0, .ref 30), (1, .int (nI c)), (2, .int (nI m)), (3, .int (nI i)), (4, .int (nI p0))]) de_M_lists_48 (by decide) rfl ?_
      refine ab_iconst (v := 0) de_M_lists_50 rfl ?_
      refine ab_istore (L' := [(8, .int (0 : Int32)), (7, .int (0 : Int32)), (6, .int (nI (ab_no (m ||| i)))), (5, .int (0 : Int32)), (0, .ref 30), (1, .int (nI c)), (2, .int (nI m)), (3, .int (nI i)), (4, .int (nI p0))]) de_M_lists_51 (by decide) rfl ?_
      refine ab_sub (L' := [(0, .ref 30), (1, .int (nI c)), (2, .int (nI m)), (3, .int (nI i)), (4, .int (nI p0)), (5, .int (nI ([] : List Nat).length)), (6, .int (nI (ab_no (m ||| i)))), (7, .int (0 : Int32)), (8, .int (nI 0))]) [4, 5, 6, 7, 8, 3, 2, 1, 0] rfl ?_
      have hF_ := (ab_bz0 _).mp c_20_1
      refine lp_M_lists_p l d nr h g rr hTM hO hc hm hi hP hF_ (w := (0 : Int32)) (ab_bz_f (by unfold md_J; rw [(md_b (c := c) (k := 8) (n := 256) rfl hc).mp c_30_2]; rfl)) (fun hh l0 hf0 hf1 hf2 => ?_) 13 0 h [] (by omega) (by omega) (md_f44_refl p0 h) (md_at_nil h p0) rfl
      exact st_M_lists_157 l d nr h g rr hTM hO hc hm hi hP hF_ (w := (0 : Int32)) (ab_bz_f (by unfold md_J; rw [(md_b (c := c) (k := 8) (n := 256) rfl hc).mp c_30_2]; rfl)) hh l0 hf0 hf1 hf2
    · refine ab_aload_n de_M_lists_33 2 rfl ?_
      refine ab_iload_n de_M_lists_34 3 rfl ?_
      refine ab_iload_n de_M_lists_35 4 rfl ?_
      refine ab_iload_n de_M_lists_36 5 rfl ?_
      refine ab_cV (as := [.int (nI c), .int (nI m), .int (nI i)]) (st := []) (ct_M_hasJump l _ nr h g rr hTM hO hc hm hi) mo_M_hasJump mi_M_hasJump ml_M_192 rfl (by decide) rfl rfl rfl (Nat.le_of_ble_eq_true rfl) de_M_lists_37 (fun v_ M_ hK_ hl_ hv_ => ?_)
      obtain ⟨rfl, hm_⟩ := hK_
      have hm_ := hm_.symm
      subst hm_
      change ab_G _ _ _ _ _ _ _ [(6, .int (nI (ab_no (m ||| i)))), (5, .int (0 : Int32)), (0, .ref 30), (1, .int (nI c)), (2, .int (nI m)), (3, .int (nI i)), (4, .int (nI p0))] [.int (ab_bz (sp_lj T c m i))] (ab_S nr h g rr) _
      refine ab_if_eq (tgt := 47) de_M_lists_40 rfl (fun c_40_3 => ?_) (fun c_40_3 => ?_)
      · refine ab_iconst (v := 0) de_M_lists_47 rfl ?_
        refine ab_istore (L' := [(7, .int (0 : Int32)), (6, .int (nI (ab_no (m ||| i)))), (5, .int (0 : Int32)), (0, .ref 30), (1, .int (nI c)), (2, .int (nI m)), (3, .int (nI i)), (4, .int (nI p0))]) de_M_lists_48 (by decide) rfl ?_
        refine ab_iconst (v := 0) de_M_lists_50 rfl ?_
        refine ab_istore (L' := [(8, .int (0 : Int32)), (7, .int (0 : Int32)), (6, .int (nI (ab_no (m ||| i)))), (5, .int (0 : Int32)), (0, .ref 30), (1, .int (nI c)), (2, .int (nI m)), (3, .int (nI i)), (4, .int (nI p0))]) de_M_lists_51 (by decide) rfl ?_
        refine ab_sub (L' := [(0, .ref 30), (1, .int (nI c)), (2, .int (nI m)), (3, .int (nI i)), (4, .int (nI p0)), (5, .int (nI ([] : List Nat).length)), (6, .int (nI (ab_no (m ||| i)))), (7, .int (0 : Int32)), (8, .int (nI 0))]) [4, 5, 6, 7, 8, 3, 2, 1, 0] rfl ?_
        have hF_ := (ab_bz0 _).mp c_20_1
        refine lp_M_lists_p l d nr h g rr hTM hO hc hm hi hP hF_ (w := (0 : Int32)) (ab_bz_f (by unfold md_J; rw [(ab_bz0 _).mp c_40_3]; exact Bool.and_false _)) (fun hh l0 hf0 hf1 hf2 => ?_) 13 0 h [] (by omega) (by omega) (md_f44_refl p0 h) (md_at_nil h p0) rfl
        exact st_M_lists_157 l d nr h g rr hTM hO hc hm hi hP hF_ (w := (0 : Int32)) (ab_bz_f (by unfold md_J; rw [(ab_bz0 _).mp c_40_3]; exact Bool.and_false _)) hh l0 hf0 hf1 hf2
      · refine ab_iconst (v := 1) de_M_lists_43 rfl ?_
        refine ab_goto (tgt := 48) de_M_lists_44 rfl ?_
        refine ab_istore (L' := [(7, .int (1 : Int32)), (6, .int (nI (ab_no (m ||| i)))), (5, .int (0 : Int32)), (0, .ref 30), (1, .int (nI c)), (2, .int (nI m)), (3, .int (nI i)), (4, .int (nI p0))]) de_M_lists_48 (by decide) rfl ?_
        refine ab_iconst (v := 0) de_M_lists_50 rfl ?_
        refine ab_istore (L' := [(8, .int (0 : Int32)), (7, .int (1 : Int32)), (6, .int (nI (ab_no (m ||| i)))), (5, .int (0 : Int32)), (0, .ref 30), (1, .int (nI c)), (2, .int (nI m)), (3, .int (nI i)), (4, .int (nI p0))]) de_M_lists_51 (by decide) rfl ?_
        refine ab_sub (L' := [(0, .ref 30), (1, .int (nI c)), (2, .int (nI m)), (3, .int (nI i)), (4, .int (nI p0)), (5, .int (nI ([] : List Nat).length)), (6, .int (nI (ab_no (m ||| i)))), (7, .int (1 : Int32)), (8, .int (nI 0))]) [4, 5, 6, 7, 8, 3, 2, 1, 0] rfl ?_
        have hF_ := (ab_bz0 _).mp c_20_1
        refine lp_M_lists_p l d nr h g rr hTM hO hc hm hi hP hF_ (w := (1 : Int32)) (ab_bz_t (by unfold md_J; rw [md_bt (c := c) (k := 8) (n := 256) rfl hc c_30_2, (ab_bz1 _).mp c_40_3]; rfl)) (fun hh l0 hf0 hf1 hf2 => ?_) 13 0 h [] (by omega) (by omega) (md_f44_refl p0 h) (md_at_nil h p0) rfl
        exact st_M_lists_157 l d nr h g rr hTM hO hc hm hi hP hF_ (w := (1 : Int32)) (ab_bz_t (by unfold md_J; rw [md_bt (c := c) (k := 8) (n := 256) rfl hc c_30_2, (ab_bz1 _).mp c_40_3]; rfl)) hh l0 hf0 hf1 hf2
  · refine ab_iconst (v := 0) de_M_lists_23 rfl ?_
    exact ab_ret (v := some (.int (0 : Int32))) de_M_lists_24 ⟨_, rfl⟩ (by rw [md_ml0 ((ab_bz1 _).mp c_20_1)]; exact ⟨rfl, _, rfl, md_f44_refl p0 h, md_at_nil h p0⟩)
