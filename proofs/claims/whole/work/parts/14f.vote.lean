/-! votes: which RIVALS let which MOVES; ASK, LEFT, TIGHT, CHEAT -/
theorem sp_ak_s (a : Nat → Nat) (n v : Nat) : sp_ak a (n + 1) v = sp_ak a n v + (if v = a n then 1 else 0) := rfl
theorem sp_as_mx (V : Nat → Nat) (n : Nat) : ∀ k, (sp_as V n k).2 = -1 ∨ ∃ j, j < k ∧ (sp_as V n k).2 = nI j ∧ (sp_as V n k).1 = max (V j) (n - V j)
  | 0 => Or.inl rfl
  | k + 1 => by
    rw [sp_as]
    split
    · exact Or.inr ⟨k, by omega, rfl, rfl⟩
    · rcases sp_as_mx V n k with h | ⟨j, h1, h2⟩
      · exact Or.inl h
      · exact Or.inr ⟨j, by omega, h2⟩
theorem sp_tbz {q : Nat} : ¬ (0 : Nat).testBit q = true := by rw [Nat.zero_testBit]; decide
set_option maxHeartbeats 1000000 in
set_option maxRecDepth 10000 in
theorem lp_F_addVotes (l : Launch) (d : Nat) (nr : Nat) (h : Nat → Nat → Int32) (g : Nat → Nat → Int64) (rr : Nat → Option Nat) {V : Nat → Nat} (hV : ∀ x, x < 256 → h 26 x = nI (V x)) {p o w : Nat} (hp : p < 16) (ho : o < 4096) : ∀ (fu_ q : Nat) (hh : Nat → Nat → Int32), q ≤ 12 → 12 < q + fu_ → (∀ a, a ≠ 26 → hh a = h a) → (∀ x, x < 256 → hh 26 x = nI (V x + if x / 16 = p ∧ x % 16 < q ∧ o.testBit (x % 16) = true then w else 0)) → ab_G l none am_F_addVotes (d) 0 0 3 [(0, .ref 14), (1, .int (nI p)), (2, .int (nI o)), (3, .int (nI w)), (4, .int (nI q))] [] (ab_S nr hh g rr) (fun (r_ : Option Value) (M' : ab_Me) => r_ = none ∧ ∃ h', M' = ab_S nr h' g rr ∧ (∀ a, a ≠ 26 → h' a = h a) ∧ (∀ x, x < 256 → h' 26 x = nI (V x + if x / 16 = p ∧ o.testBit (x % 16) = true then w else 0))) := by
  intro fu_
  induction fu_ with
  | zero => intro q hh h1 h2; omega
  | succ fu_ ih =>
    intro q hh hN_ hn_ hf0_ hf1
    refine ab_iload de_F_addVotes_3 4 rfl ?_
    refine ab_bipush (v := 12) de_F_addVotes_5 rfl ?_
    refine ab_icmp_ge (tgt := 45) de_F_addVotes_7 rfl (fun c_7_1 => ?_) (fun c_7_1 => ?_)
    · have hq := ab_le_of (n := 12) (by decide) (by omega) rfl c_7_1
      exact ab_ret (v := none) de_F_addVotes_45 rfl ⟨rfl, hh, rfl, hf0_, fun x hx => by
    rw [hf1 x hx]
    by_cases y : x / 16 = p ∧ o.testBit (x % 16) = true
    · have : x % 16 < 12 := by
        rcases Nat.lt_or_ge (x % 16) 12 with z | z
        · exact z
        · rw [sp_bit12 ho z] at y; cases y.2
      rw [if_pos y, if_pos ⟨y.1, by omega, y.2⟩]
    · rw [if_neg y, if_neg (fun z => y ⟨z.1, z.2.2⟩)]⟩
    · have hq := ab_nle_of (n := 12) (by decide) (by omega) rfl c_7_1
      refine ab_iload_n de_F_addVotes_10 2 rfl ?_
      refine ab_if_eq (tgt := 45) de_F_addVotes_11 rfl (fun c_11_2 => ?_) (fun c_11_2 => ?_)
      · exact ab_ret (v := none) de_F_addVotes_45 rfl ⟨rfl, hh, rfl, hf0_, fun x hx => by
    rw [hf1 x hx]
    have z : o = 0 := (sp_z ho).mp c_11_2
    rw [z, if_neg (fun y => sp_tbz y.2.2), if_neg (fun y => sp_tbz y.2)]⟩
      · refine ab_iload_n de_F_addVotes_14 2 rfl ?_
        refine ab_iload de_F_addVotes_15 4 rfl ?_
        refine ab_ishr de_F_addVotes_17 ?_
        refine ab_iconst (v := 1) de_F_addVotes_18 rfl ?_
        refine ab_iand de_F_addVotes_19 ?_
        refine ab_top (v' := nI (o.testBit q).toNat) (sp_bitne o q (by omega) (by omega)) ?_
        refine ab_if_eq (tgt := 39) de_F_addVotes_20 rfl (fun c_20_3 => ?_) (fun c_20_3 => ?_)
        · refine ab_iinc (v := nI (q + 1)) (L' := [(4, .int (nI (q + 1))), (0, .ref 14), (1, .int (nI p)), (2, .int (nI o)), (3, .int (nI w))]) de_F_addVotes_39 4 rfl (by rw [show Int32.ofInt 1 = nI 1 from rfl, ab_add]) (by decide) rfl ?_
          refine ab_goto (tgt := 3) de_F_addVotes_42 rfl ?_
          refine ab_sub (L' := [(0, .ref 14), (1, .int (nI p)), (2, .int (nI o)), (3, .int (nI w)), (4, .int (nI (q + 1)))]) [1, 2, 3, 4, 0] rfl ?_
          exact ih (q + 1) hh (by omega) (by omega) (hf0_) (fun x hx => by
            rw [hf1 x hx]
            by_cases e : x / 16 = p ∧ x % 16 = q
            · have z := (sp_b0 _).mp c_20_3
              rw [← e.2] at z
              rw [if_neg (fun y => by rw [z] at y; cases y.2.2), if_neg (fun y => by rw [z] at y; cases y.2.2)]
            · by_cases y : x / 16 = p ∧ x % 16 < q ∧ o.testBit (x % 16) = true
              · rw [if_pos y, if_pos ⟨y.1, by omega, y.2.2⟩]
              · rw [if_neg y, if_neg (fun z => y ⟨z.1, by have := z.2.1; omega, z.2.2⟩)])
        · refine ab_aload_n de_F_addVotes_23 0 rfl ?_
          refine ab_get (v := .ref 26) fl_F_40 rfl rfl de_F_addVotes_24 ?_
          refine ab_bipush (v := 16) de_F_addVotes_27 rfl ?_
          refine ab_iload_n de_F_addVotes_29 1 rfl ?_
          refine ab_imul de_F_addVotes_30 ?_
          refine ab_iload de_F_addVotes_31 4 rfl ?_
          refine ab_iadd de_F_addVotes_33 ?_
          refine ab_top (v' := nI (16 * p + q)) (by rw [show (16 : Int32) = nI 16 from rfl, ab_mul, ab_add]) ?_
          refine ab_dup2 de_F_addVotes_34 rfl rfl ?_
          refine ab_iald (v := hh 26 (16 * p + q)) rfl (ab_in (by omega) (by decide)) (ab_hv (ab_tn (n := (16 * p + q)) (by omega))) de_F_addVotes_35 ?_
          refine ab_top (v' := nI (V (16 * p + q))) ((hf1 _ (by omega)).trans (by rw [if_neg (fun z => by have := z.2.1; omega)]; rfl)) ?_
          refine ab_iload_n de_F_addVotes_36 3 rfl ?_
          refine ab_iadd de_F_addVotes_37 ?_
          refine ab_top (v' := nI (V (16 * p + q) + w)) (ab_add _ _) ?_
          refine ab_iast (x := 26) rfl (ab_in (by omega) (by decide)) de_F_addVotes_38 ?_
          rw [(ab_tn (n := (16 * p + q)) (by omega))]
          change ab_G _ _ _ _ _ _ _ _ _ (ab_S nr (ab_u2 hh 26 (16 * p + q) (nI (V (16 * p + q) + w))) g rr) _
          refine ab_iinc (v := nI (q + 1)) (L' := [(4, .int (nI (q + 1))), (0, .ref 14), (1, .int (nI p)), (2, .int (nI o)), (3, .int (nI w))]) de_F_addVotes_39 4 rfl (by rw [show Int32.ofInt 1 = nI 1 from rfl, ab_add]) (by decide) rfl ?_
          refine ab_goto (tgt := 3) de_F_addVotes_42 rfl ?_
          refine ab_sub (L' := [(0, .ref 14), (1, .int (nI p)), (2, .int (nI o)), (3, .int (nI w)), (4, .int (nI (q + 1)))]) [1, 2, 3, 4, 0] rfl ?_
          exact ih (q + 1) (ab_u2 hh 26 (16 * p + q) (nI (V (16 * p + q) + w))) (by omega) (by omega) (fun a ha => by rw [ab_u2_row ha]; exact hf0_ a ha) (fun x hx => by
            by_cases e : x = 16 * p + q
            · rw [e, ab_u2_at, if_pos ⟨by omega, by omega, by rw [show (16 * p + q) % 16 = q by omega]; exact ts_f c_20_3⟩]
            · rw [ab_u2_ne (fun z => e z.2), hf1 x hx]
              by_cases y : x / 16 = p ∧ x % 16 < q ∧ o.testBit (x % 16) = true
              · rw [if_pos y, if_pos ⟨y.1, by omega, y.2.2⟩]
              · rw [if_neg y, if_neg (fun z => y ⟨z.1, by have := z.2.1; have := z.1; omega, z.2.2⟩)])
set_option maxHeartbeats 1000000 in
set_option maxRecDepth 10000 in
theorem ct_F_addVotes (l : Launch) (d : Nat) (nr : Nat) (h : Nat → Nat → Int32) (g : Nat → Nat → Int64) (rr : Nat → Option Nat) {V : Nat → Nat} (hV : ∀ x, x < 256 → h 26 x = nI (V x)) {p o w : Nat} (hp : p < 16) (ho : o < 4096) : ab_C l am_F_addVotes d 0 0 [.ref 14, .int (nI p), .int (nI o), .int (nI w)] (ab_S nr h g rr) (fun (r_ : Option Value) (M' : ab_Me) => r_ = none ∧ ∃ h', M' = ab_S nr h' g rr ∧ (∀ a, a ≠ 26 → h' a = h a) ∧ (∀ x, x < 256 → h' 26 x = nI (V x + if x / 16 = p ∧ o.testBit (x % 16) = true then w else 0))) := by
  refine ab_C_of (by decide +kernel) rfl (Nat.le_of_ble_eq_true rfl) ?_
  refine ab_iconst (v := 0) de_F_addVotes_0 rfl ?_
  refine ab_istore (L' := [(4, .int (0 : Int32)), (0, .ref 14), (1, .int (nI p)), (2, .int (nI o)), (3, .int (nI w))]) de_F_addVotes_1 (by decide) rfl ?_
  refine ab_sub (L' := [(0, .ref 14), (1, .int (nI p)), (2, .int (nI o)), (3, .int (nI w)), (4, .int (nI 0))]) [1, 2, 3, 4, 0] rfl ?_
  exact lp_F_addVotes l d nr h g rr hV hp ho 13 0 h (by omega) (by omega) (fun _ _ => rfl) (fun x hx => by rw [hV x hx, if_neg (fun z => absurd z.2.1 (Nat.not_lt_zero _))]; rfl)
set_option maxHeartbeats 1000000 in
set_option maxRecDepth 10000 in
theorem lp_F_vote_p (l : Launch) (d : Nat) (nr : Nat) (h : Nat → Nat → Int32) (g : Nat → Nat → Int64) (rr : Nat → Option Nat) {T : Nat → Nat → Nat} (hT : bo_T T h 17) (hO : sp_ok T) {m i t : Nat} (hm : m < 4096) (hi : i < 4096) (ht : t < 2) {f : Nat → Bool} (hK : fk_ok f h) {x : Nat} (hx : x < 10) {v : Nat} (hv : v < 128) {K : Option Value → ab_Me → Prop} (kx : ∀ hh : Nat → Nat → Int32, (∀ a, a ≠ 26 → a ≠ 27 → hh a = h a) → (∀ v_, v_ < 128 → hh 27 v_ = nI (sp_ak (fun j => sp_lv T (sp_fo f j) m i % 128) (sp_rv f x) v_)) → (∀ x_, x_ < 256 → hh 26 x_ = nI (sp_va T (sp_ak (fun j => sp_lv T (sp_fo f j) m i % 128) (sp_rv f x)) m i (v + 1) 0 x_)) → ab_G l none am_F_vote (d + 5) 0 0 127 [(0, .ref 14), (1, .int (nI (sp_en m i t))), (2, .int (nI x)), (3, .int (nI (sp_rv f x))), (4, .int (nI v))] [] (ab_S nr hh g rr) (K)) : ∀ (fu_ p : Nat) (hh : Nat → Nat → Int32), p ≤ 16 → 16 < p + fu_ → (∀ a, a ≠ 26 → a ≠ 27 → hh a = h a) → (∀ v_, v_ < 128 → hh 27 v_ = nI (sp_ak (fun j => sp_lv T (sp_fo f j) m i % 128) (sp_rv f x) v_)) → (∀ x_, x_ < 256 → hh 26 x_ = nI (sp_va T (sp_ak (fun j => sp_lv T (sp_fo f j) m i % 128) (sp_rv f x)) m i v p x_)) → ab_G l none am_F_vote (d + 5) 0 0 79 [(0, .ref 14), (1, .int (nI (sp_en m i t))), (2, .int (nI x)), (3, .int (nI (sp_rv f x))), (4, .int (nI v)), (5, .int (nI p))] [] (ab_S nr hh g rr) (K) := by
  intro fu_
  induction fu_ with
  | zero => intro p hh h1 h2; omega
  | succ fu_ ih =>
    intro p hh hN_ hn_ hf0_ hf1 hf2
    refine ab_iload de_F_vote_79 5 rfl ?_
    refine ab_bipush (v := 15) de_F_vote_81 rfl ?_
    refine ab_icmp_gt (tgt := 127) de_F_vote_83 rfl (fun c_83_1 => ?_) (fun c_83_1 => ?_)
    · have hp := ab_lt_of (n := 15) (by decide) (by omega) rfl c_83_1
      refine ab_sub (L' := [(0, .ref 14), (1, .int (nI (sp_en m i t))), (2, .int (nI x)), (3, .int (nI (sp_rv f x))), (4, .int (nI v))]) [0, 1, 2, 3, 4] rfl ?_
      exact kx hh hf0_ hf1 (fun x_ hx_ => by rw [← sp_va_end hx_, ← show p = 16 by omega]; exact hf2 x_ hx_)
    · have hp := ab_nlt_of (n := 15) (by decide) (by omega) rfl c_83_1
      refine ab_aload_n de_F_vote_86 0 rfl ?_
      refine ab_get (v := .ref 27) fl_F_43 rfl rfl de_F_vote_87 ?_
      refine ab_iload de_F_vote_90 4 rfl ?_
      refine ab_iald (v := hh 27 v) rfl (ab_in (by omega) (by decide)) (ab_hv (ab_tn (n := v) (by omega))) de_F_vote_92 ?_
      refine ab_top (v' := nI (sp_ak (fun j => sp_lv T (sp_fo f j) m i % 128) (sp_rv f x) v)) (hf1 _ (by omega)) ?_
      refine ab_if_eq (tgt := 127) de_F_vote_93 rfl (fun c_93_2 => ?_) (fun c_93_2 => ?_)
      · refine ab_sub (L' := [(0, .ref 14), (1, .int (nI (sp_en m i t))), (2, .int (nI x)), (3, .int (nI (sp_rv f x))), (4, .int (nI v))]) [0, 1, 2, 3, 4] rfl ?_
        have z_ : sp_ak (fun j => sp_lv T (sp_fo f j) m i % 128) (sp_rv f x) v = 0 := (ab_inj (b := 0) (by have := sp_ak_le (fun j => sp_lv T (sp_fo f j) m i % 128) v (sp_rv f x); have := sp_rv_le f x; have := sp_to_lt (f := f); omega) (by decide)).mp c_93_2
        exact kx hh hf0_ hf1 (fun x_ hx_ => by rw [← sp_va_0 (p := p) z_]; exact hf2 x_ hx_)
      · refine ab_aload_n de_F_vote_96 0 rfl ?_
        refine ab_iload de_F_vote_97 5 rfl ?_
        refine ab_aload_n de_F_vote_99 0 rfl ?_
        refine ab_get (v := .ref 16) fl_F_22 rfl rfl de_F_vote_100 ?_
        refine ab_iload_n de_F_vote_103 1 rfl ?_
        refine ab_iload de_F_vote_104 4 rfl ?_
        refine ab_iload de_F_vote_106 5 rfl ?_
        refine ab_cV (as := [.int (nI (sp_en m i t)), .int (nI v), .int (nI p)]) (st := [.int (nI p), .ref 14]) (ct_B_targets l _ nr hh g rr (bo_T_fr (hf0_ 17 (by decide) (by decide)) hT) hO hm hi ht (v := v) (p := p) (by omega) (by omega)) mo_B_targets mi_B_targets ml_F_112 rfl (by decide) rfl rfl rfl (Nat.le_of_ble_eq_true rfl) de_F_vote_108 (fun v_ M_ hK_ hl_ hv_ => ?_)
        obtain ⟨rfl, hm_⟩ := hK_
        have hm_ := hm_.symm
        subst hm_
        change ab_G _ _ _ _ _ _ _ [(0, .ref 14), (1, .int (nI (sp_en m i t))), (2, .int (nI x)), (3, .int (nI (sp_rv f x))), (4, .int (nI v)), (5, .int (nI p))] [.int (nI (sp_tg T v m i p)), .int (nI p), .ref 14] (ab_S nr hh g rr) _
        refine ab_aload_n de_F_vote_111 0 rfl ?_
        refine ab_get (v := .ref 27) fl_F_43 rfl rfl de_F_vote_112 ?_
        refine ab_iload de_F_vote_115 4 rfl ?_
        refine ab_iald (v := hh 27 v) rfl (ab_in (by omega) (by decide)) (ab_hv (ab_tn (n := v) (by omega))) de_F_vote_117 ?_
        refine ab_top (v' := nI (sp_ak (fun j => sp_lv T (sp_fo f j) m i % 128) (sp_rv f x) v)) (hf1 _ (by omega)) ?_
        refine ab_cV (as := [.int (nI p), .int (nI (sp_tg T v m i p)), .int (nI (sp_ak (fun j => sp_lv T (sp_fo f j) m i % 128) (sp_rv f x) v))]) (st := []) (ct_F_addVotes l _ nr hh g rr (V := fun x_ => sp_va T (sp_ak (fun j => sp_lv T (sp_fo f j) m i % 128) (sp_rv f x)) m i v p x_) hf2 (p := p) (o := sp_tg T v m i p) (w := sp_ak (fun j => sp_lv T (sp_fo f j) m i % 128) (sp_rv f x) v) (by omega) (sp_tg_lt hO _ _ _ _)) mo_F_addVotes mi_F_addVotes ml_F_116 rfl (by decide) rfl rfl rfl (Nat.le_of_ble_eq_true rfl) de_F_vote_118 (fun v_ M_ hK_ hl_ hv_ => ?_)
        obtain ⟨rfl, h2, rfl, fa1, fa2⟩ := hK_
        change ab_G _ _ _ _ _ _ _ [(0, .ref 14), (1, .int (nI (sp_en m i t))), (2, .int (nI x)), (3, .int (nI (sp_rv f x))), (4, .int (nI v)), (5, .int (nI p))] [] (ab_S nr h2 g rr) _
        refine ab_iinc (v := nI (p + 1)) (L' := [(5, .int (nI (p + 1))), (0, .ref 14), (1, .int (nI (sp_en m i t))), (2, .int (nI x)), (3, .int (nI (sp_rv f x))), (4, .int (nI v))]) de_F_vote_121 5 rfl (by rw [show Int32.ofInt 1 = nI 1 from rfl, ab_add]) (by decide) rfl ?_
        refine ab_goto (tgt := 79) de_F_vote_124 rfl ?_
        refine ab_sub (L' := [(0, .ref 14), (1, .int (nI (sp_en m i t))), (2, .int (nI x)), (3, .int (nI (sp_rv f x))), (4, .int (nI v)), (5, .int (nI (p + 1)))]) [1, 2, 3, 4, 5, 0] rfl ?_
        exact ih (p + 1) h2 (by omega) (by omega) (fun a h1 h2_ => (fa1 a h1).trans (hf0_ a h1 h2_)) (fun v_ hv_ => (congrFun (fa1 27 (by decide)) v_).trans (hf1 v_ hv_)) (fun x_ hx_ => (fa2 x_ hx_).trans (by rw [sp_va_s]))
set_option maxHeartbeats 1000000 in
set_option maxRecDepth 10000 in
theorem lp_F_vote_v (l : Launch) (d : Nat) (nr : Nat) (h : Nat → Nat → Int32) (g : Nat → Nat → Int64) (rr : Nat → Option Nat) {T : Nat → Nat → Nat} (hT : bo_T T h 17) (hO : sp_ok T) {m i t : Nat} (hm : m < 4096) (hi : i < 4096) (ht : t < 2) {f : Nat → Bool} (hK : fk_ok f h) {x : Nat} (hx : x < 10) : ∀ (fu_ v : Nat) (hh : Nat → Nat → Int32), v ≤ 128 → 128 < v + fu_ → (∀ a, a ≠ 26 → a ≠ 27 → hh a = h a) → (∀ v_, v_ < 128 → hh 27 v_ = nI (sp_ak (fun j => sp_lv T (sp_fo f j) m i % 128) (sp_rv f x) v_)) → (∀ x_, x_ < 256 → hh 26 x_ = nI (sp_va T (sp_ak (fun j => sp_lv T (sp_fo f j) m i % 128) (sp_rv f x)) m i v 0 x_)) → ab_G l none am_F_vote (d + 5) 0 0 68 [(0, .ref 14), (1, .int (nI (sp_en m i t))), (2, .int (nI x)), (3, .int (nI (sp_rv f x))), (4, .int (nI v))] [] (ab_S nr hh g rr) (fun (r_ : Option Value) (M' : ab_Me) => r_ = none ∧ ∃ h', M' = ab_S nr h' g rr ∧ (∀ a, a ≠ 26 → a ≠ 27 → h' a = h a) ∧ (∀ x_, x_ < 256 → h' 26 x_ = nI (sp_vt T f m i (sp_rv f x) x_))) := by
  intro fu_
  induction fu_ with
  | zero => intro v hh h1 h2; omega
  | succ fu_ ih =>
    intro v hh hN_ hn_ hf0_ hf1 hf2
    refine ab_iload de_F_vote_68 4 rfl ?_
    refine ab_sipush (v := 128) de_F_vote_70 rfl ?_
    refine ab_icmp_ge (tgt := 133) de_F_vote_73 rfl (fun c_73_1 => ?_) (fun c_73_1 => ?_)
    · have hv := ab_le_of (n := 128) (by decide) (by omega) rfl c_73_1
      exact ab_ret (v := none) de_F_vote_133 rfl ⟨rfl, hh, rfl, hf0_, fun x_ hx_ => by rw [hf2 x_ hx_, show v = 128 by omega, sp_va_all]⟩
    · have hv := ab_nle_of (n := 128) (by decide) (by omega) rfl c_73_1
      refine ab_iconst (v := 0) de_F_vote_76 rfl ?_
      refine ab_istore (L' := [(5, .int (0 : Int32)), (0, .ref 14), (1, .int (nI (sp_en m i t))), (2, .int (nI x)), (3, .int (nI (sp_rv f x))), (4, .int (nI v))]) de_F_vote_77 (by decide) rfl ?_
      refine ab_sub (L' := [(0, .ref 14), (1, .int (nI (sp_en m i t))), (2, .int (nI x)), (3, .int (nI (sp_rv f x))), (4, .int (nI v)), (5, .int (nI 0))]) [1, 2, 3, 4, 5, 0] rfl ?_
      refine lp_F_vote_p l _ nr h g rr hT hO hm hi ht hK hx hv (fun h3 e1 e2 e3 => ?_) 17 0 hh (by omega) (by omega) hf0_ hf1 hf2
      refine ab_iinc (v := nI (v + 1)) (L' := [(4, .int (nI (v + 1))), (0, .ref 14), (1, .int (nI (sp_en m i t))), (2, .int (nI x)), (3, .int (nI (sp_rv f x)))]) de_F_vote_127 4 rfl (by rw [show Int32.ofInt 1 = nI 1 from rfl, ab_add]) (by decide) rfl ?_
      refine ab_goto (tgt := 68) de_F_vote_130 rfl ?_
      refine ab_sub (L' := [(0, .ref 14), (1, .int (nI (sp_en m i t))), (2, .int (nI x)), (3, .int (nI (sp_rv f x))), (4, .int (nI (v + 1)))]) [1, 2, 3, 4, 0] rfl ?_
      exact ih (v + 1) h3 (by omega) (by omega) e1 e2 e3
set_option maxHeartbeats 1000000 in
set_option maxRecDepth 10000 in
theorem lp_F_vote_j (l : Launch) (d : Nat) (nr : Nat) (h : Nat → Nat → Int32) (g : Nat → Nat → Int64) (rr : Nat → Option Nat) {T : Nat → Nat → Nat} (hT : bo_T T h 17) (hO : sp_ok T) {m i t : Nat} (hm : m < 4096) (hi : i < 4096) (ht : t < 2) {f : Nat → Bool} (hK : fk_ok f h) {x : Nat} (hx : x < 10) (hr4 : (sp_rv f x) ≤ sp_to f) (ht4 : sp_to f ≤ 4096) : ∀ (fu_ j : Nat) (hh : Nat → Nat → Int32), j ≤ (sp_rv f x) → (sp_rv f x) < j + fu_ → (∀ a, a ≠ 27 → hh a = h a) → (∀ v_, v_ < 128 → hh 27 v_ = nI (sp_ak (fun j => sp_lv T (sp_fo f j) m i % 128) j v_)) → ab_G l none am_F_vote (d + 5) 0 0 17 [(0, .ref 14), (1, .int (nI (sp_en m i t))), (2, .int (nI x)), (3, .int (nI (sp_rv f x))), (4, .int (nI j))] [] (ab_S nr hh g rr) (fun (r_ : Option Value) (M' : ab_Me) => r_ = none ∧ ∃ h', M' = ab_S nr h' g rr ∧ (∀ a, a ≠ 26 → a ≠ 27 → h' a = h a) ∧ (∀ x_, x_ < 256 → h' 26 x_ = nI (sp_vt T f m i (sp_rv f x) x_))) := by
  intro fu_
  induction fu_ with
  | zero => intro j hh h1 h2; omega
  | succ fu_ ih =>
    intro j hh hN_ hn_ hf0_ hf1
    refine ab_iload de_F_vote_17 4 rfl ?_
    refine ab_iload_n de_F_vote_19 3 rfl ?_
    refine ab_icmp_ge (tgt := 57) de_F_vote_20 rfl (fun c_20_1 => ?_) (fun c_20_1 => ?_)
    · have hj := (ab_le (by omega) (by omega)).mp c_20_1
      have hj__ : j = (sp_rv f x) := by omega
      refine ab_aload_n de_F_vote_57 0 rfl ?_
      refine ab_get (v := .ref 26) fl_F_40 rfl rfl de_F_vote_58 ?_
      refine ab_iconst (v := 0) de_F_vote_61 rfl ?_
      refine ab_cS (as := [.ref 26, .int (0 : Int32)]) (st := []) (ct_A_fillI l _ nr hh g rr (x := 26) (n := 256) rfl (by decide) (0 : Int32)) mo_A_fillI ms_A_fillI ml_F_67 rfl rfl (Nat.le_of_ble_eq_true rfl) de_F_vote_62 (fun v_ M_ hK_ hl_ hv_ => ?_)
      obtain ⟨rfl, hm_⟩ := hK_
      have hm_ := hm_.symm
      subst hm_
      change ab_G _ _ _ _ _ _ _ [(0, .ref 14), (1, .int (nI (sp_en m i t))), (2, .int (nI x)), (3, .int (nI (sp_rv f x))), (4, .int (nI j))] [] (ab_S nr (fl_i hh 26 256 (0 : Int32)) g rr) _
      refine ab_iconst (v := 1) de_F_vote_65 rfl ?_
      refine ab_istore (L' := [(4, .int (1 : Int32)), (0, .ref 14), (1, .int (nI (sp_en m i t))), (2, .int (nI x)), (3, .int (nI (sp_rv f x)))]) de_F_vote_66 (by decide) rfl ?_
      refine ab_sub (L' := [(0, .ref 14), (1, .int (nI (sp_en m i t))), (2, .int (nI x)), (3, .int (nI (sp_rv f x))), (4, .int (nI 1))]) [1, 2, 3, 4, 0] rfl ?_
      exact lp_F_vote_v l _ nr h g rr hT hO hm hi ht hK hx 128 1 _ (by omega) (by omega) (fun a h1 h2_ => (funext fun b => fl_k h1).trans (hf0_ a h2_)) (fun v_ hv_ => by rw [fl_k (by decide), hf1 v_ hv_, hj__]) (fun x_ hx_ => by rw [fl_at hx_, sp_va_1]; rfl)
    · have hj := Nat.lt_of_not_le (fun z_ => c_20_1 ((ab_le (by omega) (by omega)).mpr z_))
      have fo_ := sp_fo_ok (f := f) (i := j) (by omega)
      have lv_ := sp_lv4 T (sp_fo f j) m i
      refine ab_aload_n de_F_vote_23 0 rfl ?_
      refine ab_get (v := .ref 27) fl_F_43 rfl rfl de_F_vote_24 ?_
      refine ab_aload_n de_F_vote_27 0 rfl ?_
      refine ab_get (v := .ref 16) fl_F_22 rfl rfl de_F_vote_28 ?_
      refine ab_iload_n de_F_vote_31 1 rfl ?_
      refine ab_aload_n de_F_vote_32 0 rfl ?_
      refine ab_get (v := .ref 22) fl_F_23 rfl rfl de_F_vote_33 ?_
      refine ab_iload de_F_vote_36 4 rfl ?_
      refine ab_iald (v := hh 22 j) rfl (ab_in (by omega) (by decide)) (ab_hv (ab_tn (n := j) (by omega))) de_F_vote_38 ?_
      refine ab_top (v' := nI (sp_fo f j)) ((congrFun (hf0_ 22 (by decide)) j).trans (hK.2.2 j (by omega))) ?_
      refine ab_cV (as := [.int (nI (sp_en m i t)), .int (nI (sp_fo f j))]) (st := [.ref 27]) (ct_B_live l _ nr hh g rr (bo_T_fr (hf0_ 17 (by decide)) hT) hO hm hi ht (c := sp_fo f j) fo_.1) mo_B_live mi_B_live ml_F_107 rfl (by decide) rfl rfl rfl (Nat.le_of_ble_eq_true rfl) de_F_vote_39 (fun v_ M_ hK_ hl_ hv_ => ?_)
      obtain ⟨rfl, hm_⟩ := hK_
      have hm_ := hm_.symm
      subst hm_
      change ab_G _ _ _ _ _ _ _ [(0, .ref 14), (1, .int (nI (sp_en m i t))), (2, .int (nI x)), (3, .int (nI (sp_rv f x))), (4, .int (nI j))] [.int (nI (sp_lv T (sp_fo f j) m i)), .ref 27] (ab_S nr hh g rr) _
      refine ab_sipush (v := 128) de_F_vote_42 rfl ?_
      refine ab_irem de_F_vote_45 (by decide) ?_
      refine ab_top (v' := nI (sp_lv T (sp_fo f j) m i % 128)) (ab_rem (b := 128) (by omega) (by decide)) ?_
      refine ab_dup2 de_F_vote_46 rfl rfl ?_
      refine ab_iald (v := hh 27 (sp_lv T (sp_fo f j) m i % 128)) rfl (ab_in (by omega) (by decide)) (ab_hv (ab_tn (n := sp_lv T (sp_fo f j) m i % 128) (by omega))) de_F_vote_47 ?_
      refine ab_top (v' := nI (sp_ak (fun j => sp_lv T (sp_fo f j) m i % 128) j (sp_lv T (sp_fo f j) m i % 128))) (hf1 _ (by omega)) ?_
      refine ab_iconst (v := 1) de_F_vote_48 rfl ?_
      refine ab_iadd de_F_vote_49 ?_
      refine ab_top (v' := nI (sp_ak (fun j => sp_lv T (sp_fo f j) m i % 128) j (sp_lv T (sp_fo f j) m i % 128) + 1)) (ab_add _ 1) ?_
      refine ab_iast (x := 27) rfl (ab_in (by omega) (by decide)) de_F_vote_50 ?_
      rw [ab_tn (n := sp_lv T (sp_fo f j) m i % 128) (by omega)]
      change ab_G _ _ _ _ _ _ _ _ _ (ab_S nr (ab_u2 hh 27 (sp_lv T (sp_fo f j) m i % 128) (nI (sp_ak (fun j => sp_lv T (sp_fo f j) m i % 128) j (sp_lv T (sp_fo f j) m i % 128) + 1))) g rr) _
      refine ab_iinc (v := nI (j + 1)) (L' := [(4, .int (nI (j + 1))), (0, .ref 14), (1, .int (nI (sp_en m i t))), (2, .int (nI x)), (3, .int (nI (sp_rv f x)))]) de_F_vote_51 4 rfl (by rw [show Int32.ofInt 1 = nI 1 from rfl, ab_add]) (by decide) rfl ?_
      refine ab_goto (tgt := 17) de_F_vote_54 rfl ?_
      refine ab_sub (L' := [(0, .ref 14), (1, .int (nI (sp_en m i t))), (2, .int (nI x)), (3, .int (nI (sp_rv f x))), (4, .int (nI (j + 1)))]) [1, 2, 3, 4, 0] rfl ?_
      exact ih (j + 1) (ab_u2 hh 27 (sp_lv T (sp_fo f j) m i % 128) (nI (sp_ak (fun j => sp_lv T (sp_fo f j) m i % 128) j (sp_lv T (sp_fo f j) m i % 128) + 1))) (by omega) (by omega) (fun a ha => by rw [ab_u2_row ha]; exact hf0_ a ha) (fun v_ hv_ => by
        rw [sp_ak_s]
        by_cases e : v_ = sp_lv T (sp_fo f j) m i % 128
        · rw [e, ab_u2_at, if_pos rfl]
        · rw [ab_u2_ne (fun z => e z.2), if_neg e]; exact hf1 v_ hv_)
set_option maxHeartbeats 1000000 in
set_option maxRecDepth 10000 in
theorem ct_F_vote (l : Launch) (d : Nat) (nr : Nat) (h : Nat → Nat → Int32) (g : Nat → Nat → Int64) (rr : Nat → Option Nat) {T : Nat → Nat → Nat} (hT : bo_T T h 17) (hO : sp_ok T) {m i t : Nat} (hm : m < 4096) (hi : i < 4096) (ht : t < 2) {f : Nat → Bool} (hK : fk_ok f h) {x : Nat} (hx : x < 10) : ab_C l am_F_vote (d + 5) 0 0 [.ref 14, .int (nI (sp_en m i t)), .int (nI x)] (ab_S nr h g rr) (fun (r_ : Option Value) (M' : ab_Me) => r_ = none ∧ ∃ h', M' = ab_S nr h' g rr ∧ (∀ a, a ≠ 26 → a ≠ 27 → h' a = h a) ∧ (∀ x_, x_ < 256 → h' 26 x_ = nI (sp_vt T f m i (sp_rv f x) x_))) := by
  refine ab_C_of (by decide +kernel) rfl (Nat.le_of_ble_eq_true rfl) ?_
  refine ab_aload_n de_F_vote_0 0 rfl ?_
  refine ab_iload_n de_F_vote_1 2 rfl ?_
  refine ab_cV (as := [.int (nI x)]) (st := []) (ct_F_rivalCount l _ nr h g rr hK (x := x) (by omega)) mo_F_rivalCount mi_F_rivalCount ml_F_88 rfl (by decide) rfl rfl rfl (Nat.le_of_ble_eq_true rfl) de_F_vote_2 (fun v_ M_ hK_ hl_ hv_ => ?_)
  obtain ⟨rfl, hm_⟩ := hK_
  have hm_ := hm_.symm
  subst hm_
  change ab_G _ _ _ _ _ _ _ [(0, .ref 14), (1, .int (nI (sp_en m i t))), (2, .int (nI x))] [.int (nI (sp_rv f x))] (ab_S nr h g rr) _
  refine ab_istore_n (L' := [(3, .int (nI (sp_rv f x))), (0, .ref 14), (1, .int (nI (sp_en m i t))), (2, .int (nI x))]) de_F_vote_5 (by decide) rfl ?_
  refine ab_aload_n de_F_vote_6 1 rfl ?_
  refine ab_get (v := .ref 27) fl_F_43 rfl rfl de_F_vote_7 ?_
  refine ab_iconst (v := 0) de_F_vote_10 rfl ?_
  refine ab_cS (as := [.ref 27, .int (0 : Int32)]) (st := []) (ct_A_fillI l _ nr h g rr (x := 27) (n := 128) rfl (by decide) (0 : Int32)) mo_A_fillI ms_A_fillI ml_F_67 rfl rfl (Nat.le_of_ble_eq_true rfl) de_F_vote_11 (fun v_ M_ hK_ hl_ hv_ => ?_)
  obtain ⟨rfl, hm_⟩ := hK_
  have hm_ := hm_.symm
  subst hm_
  change ab_G _ _ _ _ _ _ _ [(3, .int (nI (sp_rv f x))), (0, .ref 14), (1, .int (nI (sp_en m i t))), (2, .int (nI x))] [] (ab_S nr (fl_i h 27 128 (0 : Int32)) g rr) _
  refine ab_iconst (v := 0) de_F_vote_14 rfl ?_
  refine ab_istore (L' := [(4, .int (0 : Int32)), (3, .int (nI (sp_rv f x))), (0, .ref 14), (1, .int (nI (sp_en m i t))), (2, .int (nI x))]) de_F_vote_15 (by decide) rfl ?_
  refine ab_sub (L' := [(0, .ref 14), (1, .int (nI (sp_en m i t))), (2, .int (nI x)), (3, .int (nI ((sp_rv f x)))), (4, .int (nI 0))]) [2, 3, 4, 1, 0] rfl ?_
  exact lp_F_vote_j l _ nr h g rr hT hO hm hi ht hK hx (sp_rv_le f x) sp_to_lt ((sp_rv f x) + 1) 0 _ (by omega) (by omega) (fun a h1 => funext fun b => fl_k h1) (fun v_ hv_ => by rw [fl_at hv_]; rfl)
set_option maxHeartbeats 1000000 in
set_option maxRecDepth 10000 in
theorem ct_F_letting (l : Launch) (d : Nat) (nr : Nat) (h : Nat → Nat → Int32) (g : Nat → Nat → Int64) (rr : Nat → Option Nat) {T : Nat → Nat → Nat} (hT : bo_T T h 17) (hO : sp_ok T) {m i t : Nat} (hm : m < 4096) (hi : i < 4096) (ht : t < 2) {f : Nat → Bool} (hK : fk_ok f h) {x : Nat} (hx : x < 10) {y : Nat} (hy : y < 256) : ab_C l am_F_letting (d + 6) 0 0 [.ref 14, .int (nI (sp_en m i t)), .int (nI x), .int (nI y)] (ab_S nr h g rr) (fun (r_ : Option Value) (M' : ab_Me) => r_ = some (.int (nI ((sp_vt T f m i (sp_rv f x)) y))) ∧ ∃ h', M' = ab_S nr h' g rr ∧ (∀ a, a ≠ 26 → a ≠ 27 → h' a = h a) ∧ (∀ x_, x_ < 256 → h' 26 x_ = nI (sp_vt T f m i (sp_rv f x) x_))) := by
  refine ab_C_of (by decide +kernel) rfl (Nat.le_of_ble_eq_true rfl) ?_
  refine ab_aload_n de_F_letting_0 0 rfl ?_
  refine ab_iload_n de_F_letting_1 1 rfl ?_
  refine ab_iload_n de_F_letting_2 2 rfl ?_
  refine ab_cV (as := [.int (nI (sp_en m i t)), .int (nI x)]) (st := []) (ct_F_vote l _ nr h g rr hT hO hm hi ht hK hx) mo_F_vote mi_F_vote ml_F_97 rfl (by decide) rfl rfl rfl (Nat.le_of_ble_eq_true rfl) de_F_letting_3 (fun v_ M_ hK_ hl_ hv_ => ?_)
  obtain ⟨rfl, h2, rfl, fv1, fv2⟩ := hK_
  change ab_G _ _ _ _ _ _ _ [(0, .ref 14), (1, .int (nI (sp_en m i t))), (2, .int (nI x)), (3, .int (nI y))] [] (ab_S nr h2 g rr) _
  refine ab_aload_n de_F_letting_6 0 rfl ?_
  refine ab_get (v := .ref 26) fl_F_40 rfl rfl de_F_letting_7 ?_
  refine ab_iload_n de_F_letting_10 3 rfl ?_
  refine ab_iald (v := h2 26 y) rfl (ab_in (by omega) (by decide)) (ab_hv (ab_tn (n := y) (by omega))) de_F_letting_11 ?_
  refine ab_top (v' := nI ((sp_vt T f m i (sp_rv f x)) y)) (fv2 y hy) ?_
  exact ab_ret (v := some (.int (nI ((sp_vt T f m i (sp_rv f x)) y)))) de_F_letting_12 ⟨_, rfl⟩ ⟨rfl, _, rfl, fv1, fv2⟩
set_option maxHeartbeats 1000000 in
set_option maxRecDepth 10000 in
theorem lp_F_asked (l : Launch) (d : Nat) (nr : Nat) (h : Nat → Nat → Int32) (g : Nat → Nat → Int64) (rr : Nat → Option Nat) {T : Nat → Nat → Nat} (hT : bo_T T h 17) (hO : sp_ok T) {m i t : Nat} (hm : m < 4096) (hi : i < 4096) (ht : t < 2) {f : Nat → Bool} (hK : fk_ok f h) {x : Nat} (hx : x < 10) (h2 : Nat → Nat → Int32) (fv1 : ∀ a, a ≠ 26 → a ≠ 27 → h2 a = h a) (fv2 : ∀ x_, x_ < 256 → h2 26 x_ = nI (sp_vt T f m i (sp_rv f x) x_)) : ∀ (fu_ k : Nat), k ≤ 256 → 256 < k + fu_ → ab_G l none am_F_asked (d + 1) 0 0 21 [(0, .ref 14), (1, .int (nI (sp_en m i t))), (2, .int (nI x)), (3, .int (nI (sp_rv f x))), (4, .int (nI (sp_as (sp_vt T f m i (sp_rv f x)) (sp_rv f x) k).1)), (5, .int ((sp_as (sp_vt T f m i (sp_rv f x)) (sp_rv f x) k).2)), (6, .int (nI k))] [] (ab_S nr h2 g rr) (fun (r_ : Option Value) (M' : ab_Me) => r_ = some (.int ((sp_as (sp_vt T f m i (sp_rv f x)) (sp_rv f x) 256).2)) ∧ ∃ h', M' = ab_S nr h' g rr ∧ (∀ a, a ≠ 26 → a ≠ 27 → h' a = h a) ∧ (∀ x_, x_ < 256 → h' 26 x_ = nI (sp_vt T f m i (sp_rv f x) x_))) := by
  intro fu_
  induction fu_ with
  | zero => intro k  h1 h2; omega
  | succ fu_ ih =>
    intro k  hN_ hn_ 
    refine ab_iload de_F_asked_21 6 rfl ?_
    refine ab_aload_n de_F_asked_23 0 rfl ?_
    refine ab_get (v := .ref 26) fl_F_40 rfl rfl de_F_asked_24 ?_
    refine ab_alen (v := 256) rfl rfl de_F_asked_27 ?_
    refine ab_top (v' := nI 256) (rfl) ?_
    refine ab_icmp_ge (tgt := 73) de_F_asked_28 rfl (fun c_28_1 => ?_) (fun c_28_1 => ?_)
    · have hk := ab_le_of (n := 256) (by decide) (by omega) rfl c_28_1
      refine ab_iload de_F_asked_73 5 rfl ?_
      exact ab_ret (v := some (.int ((sp_as (sp_vt T f m i (sp_rv f x)) (sp_rv f x) k).2))) de_F_asked_75 ⟨_, rfl⟩ ⟨congrArg (fun z => some (Value.int z)) (by rw [show k = 256 by omega]), h2, rfl, fv1, fv2⟩
    · have hk := ab_nle_of (n := 256) (by decide) (by omega) rfl c_28_1
      have hv1 := sp_vt_le T f m i (sp_rv f x) k
      have hv2 := sp_rv_le f x
      have hv3 := sp_to_lt (f := f)
      have hv4 := sp_as_le (sp_vt T f m i (sp_rv f x)) (sp_rv f x) k
      refine ab_aload_n de_F_asked_31 0 rfl ?_
      refine ab_get (v := .ref 26) fl_F_40 rfl rfl de_F_asked_32 ?_
      refine ab_iload de_F_asked_35 6 rfl ?_
      refine ab_iald (v := h2 26 k) rfl (ab_in (by omega) (by decide)) (ab_hv (ab_tn (n := k) (by omega))) de_F_asked_37 ?_
      refine ab_top (v' := nI ((sp_vt T f m i (sp_rv f x)) k)) (fv2 k (by omega)) ?_
      refine ab_iload_n de_F_asked_38 3 rfl ?_
      refine ab_aload_n de_F_asked_39 0 rfl ?_
      refine ab_get (v := .ref 26) fl_F_40 rfl rfl de_F_asked_40 ?_
      refine ab_iload de_F_asked_43 6 rfl ?_
      refine ab_iald (v := h2 26 k) rfl (ab_in (by omega) (by decide)) (ab_hv (ab_tn (n := k) (by omega))) de_F_asked_45 ?_
      refine ab_top (v' := nI ((sp_vt T f m i (sp_rv f x)) k)) (fv2 k (by omega)) ?_
      refine ab_isub de_F_asked_46 ?_
      refine ab_top (v' := nI ((sp_rv f x) - (sp_vt T f m i (sp_rv f x)) k)) (ab_sub_k hv1) ?_
      refine ab_max (ab_w3 219 rfl rfl) (Nat.le_of_ble_eq_true rfl) de_F_asked_47 ?_
      refine ab_top (v' := nI (max ((sp_vt T f m i (sp_rv f x)) k) ((sp_rv f x) - (sp_vt T f m i (sp_rv f x)) k))) (sp_mxI (by omega) (by omega)) ?_
      refine ab_istore (L' := [(7, .int (nI (max ((sp_vt T f m i (sp_rv f x)) k) ((sp_rv f x) - (sp_vt T f m i (sp_rv f x)) k)))), (0, .ref 14), (1, .int (nI (sp_en m i t))), (2, .int (nI x)), (3, .int (nI (sp_rv f x))), (4, .int (nI (sp_as (sp_vt T f m i (sp_rv f x)) (sp_rv f x) k).1)), (5, .int ((sp_as (sp_vt T f m i (sp_rv f x)) (sp_rv f x) k).2)), (6, .int (nI k))]) de_F_asked_50 (by decide) rfl ?_
      refine ab_iload de_F_asked_52 0 rfl ?_
      refine ab_iload de_F_asked_54 5 rfl ?_
      refine ab_icmp_ge (tgt := 67) de_F_asked_56 rfl (fun c_56_2 => ?_) (fun c_56_2 => ?_)
      · refine ab_iinc (v := nI (k + 1)) (L' := [(6, .int (nI (k + 1))), (7, .int (nI (max ((sp_vt T f m i (sp_rv f x)) k) ((sp_rv f x) - (sp_vt T f m i (sp_rv f x)) k)))), (0, .ref 14), (1, .int (nI (sp_en m i t))), (2, .int (nI x)), (3, .int (nI (sp_rv f x))), (4, .int (nI (sp_as (sp_vt T f m i (sp_rv f x)) (sp_rv f x) k).1)), (5, .int ((sp_as (sp_vt T f m i (sp_rv f x)) (sp_rv f x) k).2))]) de_F_asked_67 7 rfl (by rw [show Int32.ofInt 1 = nI 1 from rfl, ab_add]) (by decide) rfl ?_
        refine ab_goto (tgt := 21) de_F_asked_70 rfl ?_
        refine ab_sub (L' := [(0, .ref 14), (1, .int (nI (sp_en m i t))), (2, .int (nI x)), (3, .int (nI (sp_rv f x))), (4, .int (nI (sp_as (sp_vt T f m i (sp_rv f x)) (sp_rv f x) k).1)), (5, .int ((sp_as (sp_vt T f m i (sp_rv f x)) (sp_rv f x) k).2)), (6, .int (nI (k + 1)))]) [2, 3, 4, 5, 6, 7, 0] rfl ?_
        have e_ : sp_as (sp_vt T f m i (sp_rv f x)) (sp_rv f x) (k + 1) = sp_as (sp_vt T f m i (sp_rv f x)) (sp_rv f x) k := by rw [sp_as, if_neg (by have := (ab_le (by omega) (by omega)).mp c_56_2; omega)]
        have z_ := ih (k + 1) (by omega) (by omega)
        rw [e_] at z_
        exact z_
      · refine ab_iload de_F_asked_59 0 rfl ?_
        refine ab_istore (L' := [(4, .int (nI (max ((sp_vt T f m i (sp_rv f x)) k) ((sp_rv f x) - (sp_vt T f m i (sp_rv f x)) k)))), (7, .int (nI (max ((sp_vt T f m i (sp_rv f x)) k) ((sp_rv f x) - (sp_vt T f m i (sp_rv f x)) k)))), (0, .ref 14), (1, .int (nI (sp_en m i t))), (2, .int (nI x)), (3, .int (nI (sp_rv f x))), (5, .int ((sp_as (sp_vt T f m i (sp_rv f x)) (sp_rv f x) k).2)), (6, .int (nI k))]) de_F_asked_61 (by decide) rfl ?_
        refine ab_iload de_F_asked_63 7 rfl ?_
        refine ab_istore (L' := [(5, .int (nI k)), (4, .int (nI (max ((sp_vt T f m i (sp_rv f x)) k) ((sp_rv f x) - (sp_vt T f m i (sp_rv f x)) k)))), (7, .int (nI (max ((sp_vt T f m i (sp_rv f x)) k) ((sp_rv f x) - (sp_vt T f m i (sp_rv f x)) k)))), (0, .ref 14), (1, .int (nI (sp_en m i t))), (2, .int (nI x)), (3, .int (nI (sp_rv f x))), (6, .int (nI k))]) de_F_asked_65 (by decide) rfl ?_
        refine ab_iinc (v := nI (k + 1)) (L' := [(6, .int (nI (k + 1))), (5, .int (nI k)), (4, .int (nI (max ((sp_vt T f m i (sp_rv f x)) k) ((sp_rv f x) - (sp_vt T f m i (sp_rv f x)) k)))), (7, .int (nI (max ((sp_vt T f m i (sp_rv f x)) k) ((sp_rv f x) - (sp_vt T f m i (sp_rv f x)) k)))), (0, .ref 14), (1, .int (nI (sp_en m i t))), (2, .int (nI x)), (3, .int (nI (sp_rv f x)))]) de_F_asked_67 7 rfl (by rw [show Int32.ofInt 1 = nI 1 from rfl, ab_add]) (by decide) rfl ?_
        refine ab_goto (tgt := 21) de_F_asked_70 rfl ?_
        refine ab_sub (L' := [(0, .ref 14), (1, .int (nI (sp_en m i t))), (2, .int (nI x)), (3, .int (nI (sp_rv f x))), (4, .int (nI (max ((sp_vt T f m i (sp_rv f x)) k) ((sp_rv f x) - (sp_vt T f m i (sp_rv f x)) k)))), (5, .int (nI k)), (6, .int (nI (k + 1)))]) [4, 5, 6, 7, 2, 1, 0] rfl ?_
        have e_ : sp_as (sp_vt T f m i (sp_rv f x)) (sp_rv f x) (k + 1) = (max ((sp_vt T f m i (sp_rv f x)) k) ((sp_rv f x) - (sp_vt T f m i (sp_rv f x)) k), nI k) := by rw [sp_as, if_pos (Nat.lt_of_not_le (fun z => c_56_2 ((ab_le (by omega) (by omega)).mpr z)))]
        have z_ := ih (k + 1) (by omega) (by omega)
        rw [e_] at z_
        exact z_
set_option maxHeartbeats 1000000 in
set_option maxRecDepth 10000 in
theorem ct_F_asked (l : Launch) (d : Nat) (nr : Nat) (h : Nat → Nat → Int32) (g : Nat → Nat → Int64) (rr : Nat → Option Nat) {T : Nat → Nat → Nat} (hT : bo_T T h 17) (hO : sp_ok T) {m i t : Nat} (hm : m < 4096) (hi : i < 4096) (ht : t < 2) {f : Nat → Bool} (hK : fk_ok f h) {x : Nat} (hx : x < 10) : ab_C l am_F_asked (d + 6) 0 0 [.ref 14, .int (nI (sp_en m i t)), .int (nI x)] (ab_S nr h g rr) (fun (r_ : Option Value) (M' : ab_Me) => r_ = some (.int ((sp_as (sp_vt T f m i (sp_rv f x)) (sp_rv f x) 256).2)) ∧ ∃ h', M' = ab_S nr h' g rr ∧ (∀ a, a ≠ 26 → a ≠ 27 → h' a = h a) ∧ (∀ x_, x_ < 256 → h' 26 x_ = nI (sp_vt T f m i (sp_rv f x) x_))) := by
  refine ab_C_of (by decide +kernel) rfl (Nat.le_of_ble_eq_true rfl) ?_
  refine ab_aload_n de_F_asked_0 0 rfl ?_
  refine ab_iload_n de_F_asked_1 1 rfl ?_
  refine ab_iload_n de_F_asked_2 2 rfl ?_
  refine ab_cV (as := [.int (nI (sp_en m i t)), .int (nI x)]) (st := []) (ct_F_vote l _ nr h g rr hT hO hm hi ht hK hx) mo_F_vote mi_F_vote ml_F_97 rfl (by decide) rfl rfl rfl (Nat.le_of_ble_eq_true rfl) de_F_asked_3 (fun v_ M_ hK_ hl_ hv_ => ?_)
  obtain ⟨rfl, h2, rfl, fv1, fv2⟩ := hK_
  change ab_G _ _ _ _ _ _ _ [(0, .ref 14), (1, .int (nI (sp_en m i t))), (2, .int (nI x))] [] (ab_S nr h2 g rr) _
  refine ab_aload_n de_F_asked_6 0 rfl ?_
  refine ab_iload_n de_F_asked_7 2 rfl ?_
  refine ab_cV (as := [.int (nI x)]) (st := []) (ct_F_rivalCount l _ nr h2 g rr (fk_fr (congrFun (fv1 14 (by decide) (by decide)) 3) (fv1 23 (by decide) (by decide)) (fv1 22 (by decide) (by decide)) hK) hx) mo_F_rivalCount mi_F_rivalCount ml_F_88 rfl (by decide) rfl rfl rfl (Nat.le_of_ble_eq_true rfl) de_F_asked_8 (fun v_ M_ hK_ hl_ hv_ => ?_)
  obtain ⟨rfl, hm_⟩ := hK_
  have hm_ := hm_.symm
  subst hm_
  change ab_G _ _ _ _ _ _ _ [(0, .ref 14), (1, .int (nI (sp_en m i t))), (2, .int (nI x))] [.int (nI (sp_rv f x))] (ab_S nr h2 g rr) _
  refine ab_istore_n (L' := [(3, .int (nI (sp_rv f x))), (0, .ref 14), (1, .int (nI (sp_en m i t))), (2, .int (nI x))]) de_F_asked_11 (by decide) rfl ?_
  refine ab_iload_n de_F_asked_12 0 rfl ?_
  refine ab_istore (L' := [(4, .int (nI (sp_rv f x))), (3, .int (nI (sp_rv f x))), (0, .ref 14), (1, .int (nI (sp_en m i t))), (2, .int (nI x))]) de_F_asked_13 (by decide) rfl ?_
  refine ab_iconst (v := -1) de_F_asked_15 rfl ?_
  refine ab_istore (L' := [(5, .int (-1 : Int32)), (4, .int (nI (sp_rv f x))), (3, .int (nI (sp_rv f x))), (0, .ref 14), (1, .int (nI (sp_en m i t))), (2, .int (nI x))]) de_F_asked_16 (by decide) rfl ?_
  refine ab_iconst (v := 0) de_F_asked_18 rfl ?_
  refine ab_istore (L' := [(6, .int (0 : Int32)), (5, .int (-1 : Int32)), (4, .int (nI (sp_rv f x))), (3, .int (nI (sp_rv f x))), (0, .ref 14), (1, .int (nI (sp_en m i t))), (2, .int (nI x))]) de_F_asked_19 (by decide) rfl ?_
  refine ab_sub (L' := [(0, .ref 14), (1, .int (nI (sp_en m i t))), (2, .int (nI x)), (3, .int (nI (sp_rv f x))), (4, .int (nI (sp_as (sp_vt T f m i (sp_rv f x)) (sp_rv f x) 0).1)), (5, .int ((sp_as (sp_vt T f m i (sp_rv f x)) (sp_rv f x) 0).2)), (6, .int (nI 0))]) [4, 5, 6, 3, 2, 1, 0] rfl ?_
  exact lp_F_asked l _ nr h g rr hT hO hm hi ht hK hx h2 fv1 fv2 257 0 (by omega) (by omega)
set_option maxHeartbeats 1000000 in
set_option maxRecDepth 10000 in
theorem ct_F_leftOver (l : Launch) (d : Nat) (nr : Nat) (h : Nat → Nat → Int32) (g : Nat → Nat → Int64) (rr : Nat → Option Nat) {T : Nat → Nat → Nat} (hT : bo_T T h 17) (hO : sp_ok T) {m i t : Nat} (hm : m < 4096) (hi : i < 4096) (ht : t < 2) {f : Nat → Bool} (hK : fk_ok f h) {x : Nat} (hx : x < 10) : ab_C l am_F_leftOver (d + 7) 0 0 [.ref 14, .int (nI (sp_en m i t)), .int (nI x)] (ab_S nr h g rr) (fun (r_ : Option Value) (M' : ab_Me) => r_ = some (.int (if (sp_as (sp_vt T f m i (sp_rv f x)) (sp_rv f x) 256).2 = -1 then 0 else nI (sp_as (sp_vt T f m i (sp_rv f x)) (sp_rv f x) 256).1)) ∧ ∃ h', M' = ab_S nr h' g rr ∧ (∀ a, a ≠ 26 → a ≠ 27 → h' a = h a) ∧ (∀ x_, x_ < 256 → h' 26 x_ = nI (sp_vt T f m i (sp_rv f x) x_))) := by
  refine ab_C_of (by decide +kernel) rfl (Nat.le_of_ble_eq_true rfl) ?_
  refine ab_aload_n de_F_leftOver_0 0 rfl ?_
  refine ab_iload_n de_F_leftOver_1 1 rfl ?_
  refine ab_iload_n de_F_leftOver_2 2 rfl ?_
  refine ab_cV (as := [.int (nI (sp_en m i t)), .int (nI x)]) (st := []) (ct_F_asked l _ nr h g rr hT hO hm hi ht hK hx) mo_F_asked mi_F_asked ml_F_104 rfl (by decide) rfl rfl rfl (Nat.le_of_ble_eq_true rfl) de_F_leftOver_3 (fun v_ M_ hK_ hl_ hv_ => ?_)
  obtain ⟨rfl, h2, rfl, fv1, fv2⟩ := hK_
  change ab_G _ _ _ _ _ _ _ [(0, .ref 14), (1, .int (nI (sp_en m i t))), (2, .int (nI x))] [.int ((sp_as (sp_vt T f m i (sp_rv f x)) (sp_rv f x) 256).2)] (ab_S nr h2 g rr) _
  refine ab_istore_n (L' := [(3, .int ((sp_as (sp_vt T f m i (sp_rv f x)) (sp_rv f x) 256).2)), (0, .ref 14), (1, .int (nI (sp_en m i t))), (2, .int (nI x))]) de_F_leftOver_6 (by decide) rfl ?_
  refine ab_iload_n de_F_leftOver_7 0 rfl ?_
  refine ab_iconst (v := -1) de_F_leftOver_8 rfl ?_
  refine ab_icmp_ne (tgt := 16) de_F_leftOver_9 rfl (fun c_9_1 => ?_) (fun c_9_1 => ?_)
  · obtain ⟨j_, hj_, ej_, em_⟩ := (sp_as_mx (sp_vt T f m i (sp_rv f x)) (sp_rv f x) 256).resolve_left c_9_1
    have hv1 := sp_vt_le T f m i (sp_rv f x) j_
    have hv2 := sp_rv_le f x
    have hv3 := sp_to_lt (f := f)
    refine ab_aload_n de_F_leftOver_16 1 rfl ?_
    refine ab_get (v := .ref 26) fl_F_40 rfl rfl de_F_leftOver_17 ?_
    refine ab_iload_n de_F_leftOver_20 0 rfl ?_
    refine ab_iald (v := h2 26 j_) rfl (by rw [ej_]; exact ab_in (by omega) (by decide)) (ab_hv (by rw [ej_]; exact ab_tn (by omega))) de_F_leftOver_21 ?_
    refine ab_top (v' := nI ((sp_vt T f m i (sp_rv f x)) j_)) (fv2 j_ hj_) ?_
    refine ab_aload_n de_F_leftOver_22 1 rfl ?_
    refine ab_iload_n de_F_leftOver_23 3 rfl ?_
    refine ab_cV (as := [.int (nI x)]) (st := [.int (nI ((sp_vt T f m i (sp_rv f x)) j_))]) (ct_F_rivalCount l _ nr h2 g rr (fk_fr (congrFun (fv1 14 (by decide) (by decide)) 3) (fv1 23 (by decide) (by decide)) (fv1 22 (by decide) (by decide)) hK) hx) mo_F_rivalCount mi_F_rivalCount ml_F_88 rfl (by decide) rfl rfl rfl (Nat.le_of_ble_eq_true rfl) de_F_leftOver_24 (fun v_ M_ hK_ hl_ hv_ => ?_)
    obtain ⟨rfl, hm_⟩ := hK_
    have hm_ := hm_.symm
    subst hm_
    change ab_G _ _ _ _ _ _ _ [(3, .int ((sp_as (sp_vt T f m i (sp_rv f x)) (sp_rv f x) 256).2)), (0, .ref 14), (1, .int (nI (sp_en m i t))), (2, .int (nI x))] [.int (nI (sp_rv f x)), .int (nI ((sp_vt T f m i (sp_rv f x)) j_))] (ab_S nr h2 g rr) _
    refine ab_aload_n de_F_leftOver_27 1 rfl ?_
    refine ab_get (v := .ref 26) fl_F_40 rfl rfl de_F_leftOver_28 ?_
    refine ab_iload_n de_F_leftOver_31 0 rfl ?_
    refine ab_iald (v := h2 26 j_) rfl (by rw [ej_]; exact ab_in (by omega) (by decide)) (ab_hv (by rw [ej_]; exact ab_tn (by omega))) de_F_leftOver_32 ?_
    refine ab_top (v' := nI ((sp_vt T f m i (sp_rv f x)) j_)) (fv2 j_ hj_) ?_
    refine ab_isub de_F_leftOver_33 ?_
    refine ab_top (v' := nI ((sp_rv f x) - (sp_vt T f m i (sp_rv f x)) j_)) (ab_sub_k hv1) ?_
    refine ab_max (ab_w3 219 rfl rfl) (Nat.le_of_ble_eq_true rfl) de_F_leftOver_34 ?_
    refine ab_top (v' := nI (max ((sp_vt T f m i (sp_rv f x)) j_) ((sp_rv f x) - (sp_vt T f m i (sp_rv f x)) j_))) (sp_mxI (by omega) (by omega)) ?_
    exact ab_ret (v := some (.int (nI (max ((sp_vt T f m i (sp_rv f x)) j_) ((sp_rv f x) - (sp_vt T f m i (sp_rv f x)) j_))))) de_F_leftOver_37 ⟨_, rfl⟩ ⟨congrArg (fun z => some (Value.int z)) (by rw [if_neg c_9_1, em_]), h2, rfl, fv1, fv2⟩
  · refine ab_iconst (v := 0) de_F_leftOver_12 rfl ?_
    refine ab_goto (tgt := 37) de_F_leftOver_13 rfl ?_
    exact ab_ret (v := some (.int (0 : Int32))) de_F_leftOver_37 ⟨_, rfl⟩ ⟨congrArg (fun z => some (Value.int z)) (by rw [if_pos c_9_1]), h2, rfl, fv1, fv2⟩
