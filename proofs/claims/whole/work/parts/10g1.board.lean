set_option maxHeartbeats 1000000 in
set_option maxRecDepth 10000 in
theorem lp_B_lawfulAt_q (l : Launch) (d : Nat) (nr : Nat) (h : Nat → Nat → Int32) (g : Nat → Nat → Int64) (rr : Nat → Option Nat) {T : Nat → Nat → Nat} (hT : bo_T T h 17) (hO : sp_ok T) {m i t v : Nat} (hm : m < 4096) (hi : i < 4096) (ht : t < 2) (hv : v < 4096) (x : Int32) {p : Nat} (hp : p < 16) (kx : ∀ n, sp_fd x (sp_ml T v m i) 0 = sp_fd x (sp_r16 (sp_mp T v m i) (16 - (p + 1)) (p + 1)) n → ab_G l none am_B_lawfulAt (d + 3) 0 0 67 [(0, .ref 16), (1, .int (nI (sp_en m i t))), (2, .int (nI v)), (3, .int x), (4, .int (nI n)), (5, .int (nI p))] [] (ab_S nr h g rr) (fun (r_ : Option Value) (M' : ab_Me) => r_ = some (.int (sp_fd x (sp_ml T v m i) 0)) ∧ M' = (ab_S nr h g rr))) : ∀ (fu_ q : Nat) (n : Nat), q ≤ 12 → 12 < q + fu_ → sp_fd x (sp_ml T v m i) 0 = sp_fd x (sp_r12 (fun q => (sp_tg T v m i p).testBit q) (fun q => 16 * p + q) (12 - q) q ++ sp_r16 (sp_mp T v m i) (16 - (p + 1)) (p + 1)) n → ab_G l none am_B_lawfulAt (d + 3) 0 0 26 [(0, .ref 16), (1, .int (nI (sp_en m i t))), (2, .int (nI v)), (3, .int x), (4, .int (nI n)), (5, .int (nI p)), (6, .int (nI (sp_tg T v m i p))), (7, .int (nI q))] [] (ab_S nr h g rr) (fun (r_ : Option Value) (M' : ab_Me) => r_ = some (.int (sp_fd x (sp_ml T v m i) 0)) ∧ M' = (ab_S nr h g rr)) := by
  intro fu_
  induction fu_ with
  | zero => intro q n h1 h2; omega
  | succ fu_ ih =>
    intro q n hN_ hn_ hf0
    refine ab_iload de_B_lawfulAt_26 7 rfl ?_
    refine ab_bipush (v := 12) de_B_lawfulAt_28 rfl ?_
    refine ab_icmp_ge (tgt := 67) de_B_lawfulAt_30 rfl (fun c_30_1 => ?_) (fun c_30_1 => ?_)
    · have hq := ab_le_of (n := 12) (by decide) (by omega) rfl c_30_1
      refine ab_sub (L' := [(0, .ref 16), (1, .int (nI (sp_en m i t))), (2, .int (nI v)), (3, .int x), (4, .int (nI n)), (5, .int (nI p))]) [0, 1, 2, 3, 4, 5] rfl ?_
      exact kx n (hf0.trans (by rw [sp_r12_e (by omega), List.nil_append]))
    · have hq := ab_nle_of (n := 12) (by decide) (by omega) rfl c_30_1
      refine ab_iload de_B_lawfulAt_33 6 rfl ?_
      refine ab_iload de_B_lawfulAt_35 7 rfl ?_
      refine ab_ishr de_B_lawfulAt_37 ?_
      refine ab_iconst (v := 1) de_B_lawfulAt_38 rfl ?_
      refine ab_iand de_B_lawfulAt_39 ?_
      refine ab_top (v' := nI ((sp_tg T v m i p).testBit q).toNat) (sp_bitne (sp_tg T v m i p) q (by have := sp_tg_lt hO v m i p; omega) (by omega)) ?_
      refine ab_if_eq (tgt := 61) de_B_lawfulAt_40 rfl (fun c_40_2 => ?_) (fun c_40_2 => ?_)
      · refine ab_iinc (v := nI (q + 1)) (L' := [(7, .int (nI (q + 1))), (0, .ref 16), (1, .int (nI (sp_en m i t))), (2, .int (nI v)), (3, .int x), (4, .int (nI n)), (5, .int (nI p)), (6, .int (nI (sp_tg T v m i p)))]) de_B_lawfulAt_61 7 rfl (by rw [show Int32.ofInt 1 = nI 1 from rfl, ab_add]) (by decide) rfl ?_
        refine ab_goto (tgt := 26) de_B_lawfulAt_64 rfl ?_
        refine ab_sub (L' := [(0, .ref 16), (1, .int (nI (sp_en m i t))), (2, .int (nI v)), (3, .int x), (4, .int (nI n)), (5, .int (nI p)), (6, .int (nI (sp_tg T v m i p))), (7, .int (nI (q + 1)))]) [1, 2, 3, 4, 5, 6, 7, 0] rfl ?_
        exact ih (q + 1) n (by omega) (by omega) (hf0.trans (by rw [sp_r12_f hq ((sp_b0 _).mp c_40_2)]))
      · refine ab_iload de_B_lawfulAt_43 4 rfl ?_
        refine ab_iload_n de_B_lawfulAt_45 3 rfl ?_
        refine ab_icmp_ne (tgt := 58) de_B_lawfulAt_46 rfl (fun c_46_3 => ?_) (fun c_46_3 => ?_)
        · refine ab_iinc (v := nI (n + 1)) (L' := [(4, .int (nI (n + 1))), (0, .ref 16), (1, .int (nI (sp_en m i t))), (2, .int (nI v)), (3, .int x), (5, .int (nI p)), (6, .int (nI (sp_tg T v m i p))), (7, .int (nI q))]) de_B_lawfulAt_58 4 rfl (by rw [show Int32.ofInt 1 = nI 1 from rfl, ab_add]) (by decide) rfl ?_
          refine ab_iinc (v := nI (q + 1)) (L' := [(7, .int (nI (q + 1))), (4, .int (nI (n + 1))), (0, .ref 16), (1, .int (nI (sp_en m i t))), (2, .int (nI v)), (3, .int x), (5, .int (nI p)), (6, .int (nI (sp_tg T v m i p)))]) de_B_lawfulAt_61 7 rfl (by rw [show Int32.ofInt 1 = nI 1 from rfl, ab_add]) (by decide) rfl ?_
          refine ab_goto (tgt := 26) de_B_lawfulAt_64 rfl ?_
          refine ab_sub (L' := [(0, .ref 16), (1, .int (nI (sp_en m i t))), (2, .int (nI v)), (3, .int x), (4, .int (nI (n + 1))), (5, .int (nI p)), (6, .int (nI (sp_tg T v m i p))), (7, .int (nI (q + 1)))]) [2, 3, 4, 5, 1, 6, 7, 0] rfl ?_
          exact ih (q + 1) (n + 1) (by omega) (by omega) (hf0.trans (by rw [sp_r12_t hq (ts_f c_40_2), List.cons_append, sp_fd, if_neg c_46_3]))
        · refine ab_bipush (v := 16) de_B_lawfulAt_49 rfl ?_
          refine ab_iload de_B_lawfulAt_51 5 rfl ?_
          refine ab_imul de_B_lawfulAt_53 ?_
          refine ab_iload de_B_lawfulAt_54 7 rfl ?_
          refine ab_iadd de_B_lawfulAt_56 ?_
          refine ab_top (v' := nI (16 * p + q)) (by rw [show (16 : Int32) = nI 16 from rfl, ab_mul, ab_add]) ?_
          exact ab_ret (v := some (.int (nI (16 * p + q)))) de_B_lawfulAt_57 ⟨_, rfl⟩ ⟨congrArg (fun z => some (Value.int z)) (by rw [hf0, sp_r12_t hq (ts_f c_40_2), List.cons_append, sp_fd, if_pos c_46_3]), rfl⟩
set_option maxHeartbeats 1000000 in
set_option maxRecDepth 10000 in
theorem lp_B_lawfulAt_p (l : Launch) (d : Nat) (nr : Nat) (h : Nat → Nat → Int32) (g : Nat → Nat → Int64) (rr : Nat → Option Nat) {T : Nat → Nat → Nat} (hT : bo_T T h 17) (hO : sp_ok T) {m i t v : Nat} (hm : m < 4096) (hi : i < 4096) (ht : t < 2) (hv : v < 4096) (x : Int32) : ∀ (fu_ p : Nat) (n : Nat), p ≤ 16 → 16 < p + fu_ → sp_fd x (sp_ml T v m i) 0 = sp_fd x (sp_r16 (sp_mp T v m i) (16 - p) p) n → ab_G l none am_B_lawfulAt (d + 3) 0 0 6 [(0, .ref 16), (1, .int (nI (sp_en m i t))), (2, .int (nI v)), (3, .int x), (4, .int (nI n)), (5, .int (nI p))] [] (ab_S nr h g rr) (fun (r_ : Option Value) (M' : ab_Me) => r_ = some (.int (sp_fd x (sp_ml T v m i) 0)) ∧ M' = (ab_S nr h g rr)) := by
  intro fu_
  induction fu_ with
  | zero => intro p n h1 h2; omega
  | succ fu_ ih =>
    intro p n hN_ hn_ hf0
    refine ab_iload de_B_lawfulAt_6 5 rfl ?_
    refine ab_bipush (v := 15) de_B_lawfulAt_8 rfl ?_
    refine ab_icmp_gt (tgt := 73) de_B_lawfulAt_10 rfl (fun c_10_1 => ?_) (fun c_10_1 => ?_)
    · have hp := ab_lt_of (n := 15) (by decide) (by omega) rfl c_10_1
      refine ab_iconst (v := -1) de_B_lawfulAt_73 rfl ?_
      exact ab_ret (v := some (.int (-1 : Int32))) de_B_lawfulAt_74 ⟨_, rfl⟩ ⟨congrArg (fun z => some (Value.int z)) (by rw [hf0, sp_r16_e (by omega), sp_fd]), rfl⟩
    · have hp := ab_nlt_of (n := 15) (by decide) (by omega) rfl c_10_1
      refine ab_aload_n de_B_lawfulAt_13 0 rfl ?_
      refine ab_iload_n de_B_lawfulAt_14 1 rfl ?_
      refine ab_iload_n de_B_lawfulAt_15 2 rfl ?_
      refine ab_iload de_B_lawfulAt_16 5 rfl ?_
      refine ab_cV (as := [.int (nI (sp_en m i t)), .int (nI v), .int (nI p)]) (st := []) (ct_B_targets l _ nr h g rr hT hO hm hi ht hv (p := p) (by omega)) mo_B_targets mi_B_targets ml_B_58 rfl (by decide) rfl rfl rfl (Nat.le_of_ble_eq_true rfl) de_B_lawfulAt_18 (fun v_ M_ hK_ hl_ hv_ => ?_)
      obtain ⟨rfl, hm_⟩ := hK_
      have hm_ := hm_.symm
      subst hm_
      change ab_G _ _ _ _ _ _ _ [(0, .ref 16), (1, .int (nI (sp_en m i t))), (2, .int (nI v)), (3, .int x), (4, .int (nI n)), (5, .int (nI p))] [.int (nI (sp_tg T v m i p))] (ab_S nr h g rr) _
      refine ab_istore (L' := [(6, .int (nI (sp_tg T v m i p))), (0, .ref 16), (1, .int (nI (sp_en m i t))), (2, .int (nI v)), (3, .int x), (4, .int (nI n)), (5, .int (nI p))]) de_B_lawfulAt_21 (by decide) rfl ?_
      refine ab_iconst (v := 0) de_B_lawfulAt_23 rfl ?_
      refine ab_istore (L' := [(7, .int (0 : Int32)), (6, .int (nI (sp_tg T v m i p))), (0, .ref 16), (1, .int (nI (sp_en m i t))), (2, .int (nI v)), (3, .int x), (4, .int (nI n)), (5, .int (nI p))]) de_B_lawfulAt_24 (by decide) rfl ?_
      refine ab_sub (L' := [(0, .ref 16), (1, .int (nI (sp_en m i t))), (2, .int (nI v)), (3, .int x), (4, .int (nI n)), (5, .int (nI p)), (6, .int (nI (sp_tg T v m i p))), (7, .int (0 : Int32))]) [2, 3, 4, 5, 6, 7, 1, 0] rfl ?_
      refine lp_B_lawfulAt_q l d nr h g rr hT hO hm hi ht hv x (p := p) (by omega) (fun n hx => ?_) 13 0 n (by omega) (by omega) (hf0.trans (by rw [sp_r16_s (by omega)]; rfl))
      refine ab_iinc (v := nI (p + 1)) (L' := [(5, .int (nI (p + 1))), (0, .ref 16), (1, .int (nI (sp_en m i t))), (2, .int (nI v)), (3, .int x), (4, .int (nI n))]) de_B_lawfulAt_67 5 rfl (by rw [show Int32.ofInt 1 = nI 1 from rfl, ab_add]) (by decide) rfl ?_
      refine ab_goto (tgt := 6) de_B_lawfulAt_70 rfl ?_
      refine ab_sub (L' := [(0, .ref 16), (1, .int (nI (sp_en m i t))), (2, .int (nI v)), (3, .int x), (4, .int (nI n)), (5, .int (nI (p + 1)))]) [1, 2, 3, 4, 5, 0] rfl ?_
      exact ih (p + 1) n (by omega) (by omega) hx
set_option maxHeartbeats 1000000 in
set_option maxRecDepth 10000 in
theorem ct_B_lawfulAt (l : Launch) (d : Nat) (nr : Nat) (h : Nat → Nat → Int32) (g : Nat → Nat → Int64) (rr : Nat → Option Nat) {T : Nat → Nat → Nat} (hT : bo_T T h 17) (hO : sp_ok T) {m i t v : Nat} (hm : m < 4096) (hi : i < 4096) (ht : t < 2) (hv : v < 4096) (x : Int32) : ab_C l am_B_lawfulAt (d + 3) 0 0 [.ref 16, .int (nI (sp_en m i t)), .int (nI v), .int x] (ab_S nr h g rr) (fun (r_ : Option Value) (M' : ab_Me) => r_ = some (.int (sp_fd x (sp_ml T v m i) 0)) ∧ M' = (ab_S nr h g rr)) := by
  refine ab_C_of (by decide +kernel) rfl (Nat.le_of_ble_eq_true rfl) ?_
  refine ab_iconst (v := 0) de_B_lawfulAt_0 rfl ?_
  refine ab_istore (L' := [(4, .int (0 : Int32)), (0, .ref 16), (1, .int (nI (sp_en m i t))), (2, .int (nI v)), (3, .int x)]) de_B_lawfulAt_1 (by decide) rfl ?_
  refine ab_iconst (v := 0) de_B_lawfulAt_3 rfl ?_
  refine ab_istore (L' := [(5, .int (0 : Int32)), (4, .int (0 : Int32)), (0, .ref 16), (1, .int (nI (sp_en m i t))), (2, .int (nI v)), (3, .int x)]) de_B_lawfulAt_4 (by decide) rfl ?_
  refine ab_sub (L' := [(0, .ref 16), (1, .int (nI (sp_en m i t))), (2, .int (nI v)), (3, .int x), (4, .int (0 : Int32)), (5, .int (0 : Int32))]) [2, 3, 4, 5, 1, 0] rfl ?_
  exact lp_B_lawfulAt_p l d nr h g rr hT hO hm hi ht hv x 17 0 0 (by omega) (by omega) rfl
theorem sp_le1 {le : Int32} (h : -1 ≤ le) (h2 : le ≤ -1) : le = -1 := Int32.le_antisymm h2 h
theorem sp_lv4 (T : Nat → Nat → Nat) (c m i : Nat) : sp_lv T c m i < 4096 := by have := sp_lv_lt T c m i; omega
theorem sp_min1 {x le : Int32} (hx : -1 ≤ x) (hle : -1 ≤ le) : ∀ P : Prop, P → P := fun _ h => h
theorem sp_sub1 (n : Nat) : nI (n + 1) - (1 : Int32) = nI n := nI_pred n
set_option maxHeartbeats 1000000 in
set_option maxRecDepth 10000 in
theorem lp_B_bestOf_q (l : Launch) (d : Nat) (nr : Nat) (h : Nat → Nat → Int32) (g : Nat → Nat → Int64) (rr : Nat → Option Nat) {T : Nat → Nat → Nat} (hT : bo_T T h 17) (hO : sp_ok T) {m i t c n e : Nat} (hm : m < 4096) (hi : i < 4096) (ht : t < 2) (hc : c < 4096) (hd : sp_dj m i) (hn : n < 3) (hV : ∀ {m i t : Nat}, m < 4096 → i < 4096 → t < 2 → sp_dj m i → ab_C l am_B_valueOf (e + 5) 0 0 [.ref 16, .int (nI (sp_en m i t)), .int (nI c), .int (nI n)] (ab_S nr h g rr) (fun (r_ : Option Value) (M' : ab_Me) => r_ = some (.int (sp_vl T c n m i)) ∧ M' = (ab_S nr h g rr))) {p : Nat} (hp : p < 16) (kx : ∀ b le, -1 ≤ le → sp_bl (fun x => sp_vl T c n (sp_d2 T (sp_lv T c m i) m i x) (sp_d1 T (sp_lv T c m i) m i x)) (sp_ml T (sp_lv T c m i) m i) (-1, 2) = sp_bl (fun x => sp_vl T c n (sp_d2 T (sp_lv T c m i) m i x) (sp_d1 T (sp_lv T c m i) m i x)) (sp_r16 (sp_mp T (sp_lv T c m i) m i) (16 - (p + 1)) (p + 1)) (b, le) → ab_G l none am_B_bestOf (e + 6) 0 0 117 [(0, .ref 16), (1, .int (nI (sp_en m i t))), (2, .int (nI c)), (3, .int (nI (n + 1))), (4, .int (nI (sp_lv T c m i))), (5, .int b), (6, .int le), (7, .int (nI p))] [] (ab_S nr h g rr) (fun (r_ : Option Value) (M' : ab_Me) => r_ = some (.int ((sp_bl (fun x => sp_vl T c n (sp_d2 T (sp_lv T c m i) m i x) (sp_d1 T (sp_lv T c m i) m i x)) (sp_ml T (sp_lv T c m i) m i) (-1, 2)).1)) ∧ M' = (ab_S nr h g rr))) : ∀ (fu_ q : Nat) (b le : Int32), q ≤ 12 → 12 < q + fu_ → sp_bl (fun x => sp_vl T c n (sp_d2 T (sp_lv T c m i) m i x) (sp_d1 T (sp_lv T c m i) m i x)) (sp_ml T (sp_lv T c m i) m i) (-1, 2) = sp_bl (fun x => sp_vl T c n (sp_d2 T (sp_lv T c m i) m i x) (sp_d1 T (sp_lv T c m i) m i x)) (sp_r12 (fun q => (sp_tg T (sp_lv T c m i) m i p).testBit q) (fun q => 16 * p + q) (12 - q) q ++ sp_r16 (sp_mp T (sp_lv T c m i) m i) (16 - (p + 1)) (p + 1)) (b, le) → -1 ≤ le → ab_G l none am_B_bestOf (e + 6) 0 0 44 [(0, .ref 16), (1, .int (nI (sp_en m i t))), (2, .int (nI c)), (3, .int (nI (n + 1))), (4, .int (nI (sp_lv T c m i))), (5, .int b), (6, .int le), (7, .int (nI p)), (8, .int (nI (sp_tg T (sp_lv T c m i) m i p))), (9, .int (nI q))] [] (ab_S nr h g rr) (fun (r_ : Option Value) (M' : ab_Me) => r_ = some (.int ((sp_bl (fun x => sp_vl T c n (sp_d2 T (sp_lv T c m i) m i x) (sp_d1 T (sp_lv T c m i) m i x)) (sp_ml T (sp_lv T c m i) m i) (-1, 2)).1)) ∧ M' = (ab_S nr h g rr)) := by
  intro fu_
  induction fu_ with
  | zero => intro q b le h1 h2; omega
  | succ fu_ ih =>
    intro q b le hN_ hn_ hf0 hf1
    refine ab_iload de_B_bestOf_44 9 rfl ?_
    refine ab_bipush (v := 12) de_B_bestOf_46 rfl ?_
    refine ab_icmp_ge (tgt := 117) de_B_bestOf_48 rfl (fun c_48_1 => ?_) (fun c_48_1 => ?_)
    · have hq := ab_le_of (n := 12) (by decide) (by omega) rfl c_48_1
      refine ab_sub (L' := [(0, .ref 16), (1, .int (nI (sp_en m i t))), (2, .int (nI c)), (3, .int (nI (n + 1))), (4, .int (nI (sp_lv T c m i))), (5, .int b), (6, .int le), (7, .int (nI p))]) [0, 1, 2, 3, 4, 5, 6, 7] rfl ?_
      exact kx b le hf1 (hf0.trans (by rw [sp_r12_e (by omega), List.nil_append]))
    · have hq := ab_nle_of (n := 12) (by decide) (by omega) rfl c_48_1
      refine ab_iload de_B_bestOf_51 6 rfl ?_
      refine ab_iconst (v := -1) de_B_bestOf_53 rfl ?_
      refine ab_icmp_le (tgt := 117) de_B_bestOf_54 rfl (fun c_54_2 => ?_) (fun c_54_2 => ?_)
      · refine ab_sub (L' := [(0, .ref 16), (1, .int (nI (sp_en m i t))), (2, .int (nI c)), (3, .int (nI (n + 1))), (4, .int (nI (sp_lv T c m i))), (5, .int b), (6, .int le), (7, .int (nI p))]) [0, 1, 2, 3, 4, 5, 6, 7] rfl ?_
        have e1_ := sp_le1 hf1 c_54_2
        exact kx b le hf1 (hf0.trans (by rw [e1_, sp_bl_1 (fun x => sp_rg_ge (sp_vl_rg _ _ _ _ _)), sp_bl_1 (fun x => sp_rg_ge (sp_vl_rg _ _ _ _ _))]))
      · refine ab_iload de_B_bestOf_57 8 rfl ?_
        refine ab_iload de_B_bestOf_59 9 rfl ?_
        refine ab_ishr de_B_bestOf_61 ?_
        refine ab_iconst (v := 1) de_B_bestOf_62 rfl ?_
        refine ab_iand de_B_bestOf_63 ?_
        refine ab_top (v' := nI ((sp_tg T (sp_lv T c m i) m i p).testBit q).toNat) (sp_bitne (sp_tg T (sp_lv T c m i) m i p) q (by have := sp_tg_lt hO (sp_lv T c m i) m i p; omega) (by omega)) ?_
        refine ab_if_eq (tgt := 111) de_B_bestOf_64 rfl (fun c_64_3 => ?_) (fun c_64_3 => ?_)
        · refine ab_iinc (v := nI (q + 1)) (L' := [(9, .int (nI (q + 1))), (0, .ref 16), (1, .int (nI (sp_en m i t))), (2, .int (nI c)), (3, .int (nI (n + 1))), (4, .int (nI (sp_lv T c m i))), (5, .int b), (6, .int le), (7, .int (nI p)), (8, .int (nI (sp_tg T (sp_lv T c m i) m i p)))]) de_B_bestOf_111 9 rfl (by rw [show Int32.ofInt 1 = nI 1 from rfl, ab_add]) (by decide) rfl ?_
          refine ab_goto (tgt := 44) de_B_bestOf_114 rfl ?_
          refine ab_sub (L' := [(0, .ref 16), (1, .int (nI (sp_en m i t))), (2, .int (nI c)), (3, .int (nI (n + 1))), (4, .int (nI (sp_lv T c m i))), (5, .int b), (6, .int le), (7, .int (nI p)), (8, .int (nI (sp_tg T (sp_lv T c m i) m i p))), (9, .int (nI (q + 1)))]) [1, 2, 3, 4, 5, 6, 7, 8, 9, 0] rfl ?_
          exact ih (q + 1) b le (by omega) (by omega) (hf0.trans (by rw [sp_r12_f hq ((sp_b0 _).mp c_64_3)])) (hf1)
        · have hmv_ := sp_tg_mv hm (T := T) (v := (sp_lv T c m i)) (i := i) hp hq (ts_f c_64_3)
          refine ab_bipush (v := 16) de_B_bestOf_67 rfl ?_
          refine ab_iload de_B_bestOf_69 7 rfl ?_
          refine ab_imul de_B_bestOf_71 ?_
          refine ab_iload de_B_bestOf_72 9 rfl ?_
          refine ab_iadd de_B_bestOf_74 ?_
          refine ab_top (v' := nI (16 * p + q)) (by rw [show (16 : Int32) = nI 16 from rfl, ab_mul, ab_add]) ?_
          refine ab_istore (L' := [(10, .int (nI (16 * p + q))), (0, .ref 16), (1, .int (nI (sp_en m i t))), (2, .int (nI c)), (3, .int (nI (n + 1))), (4, .int (nI (sp_lv T c m i))), (5, .int b), (6, .int le), (7, .int (nI p)), (8, .int (nI (sp_tg T (sp_lv T c m i) m i p))), (9, .int (nI q))]) de_B_bestOf_75 (by decide) rfl ?_
          refine ab_aload_n de_B_bestOf_77 1 rfl ?_
          refine ab_aload_n de_B_bestOf_78 1 rfl ?_
          refine ab_iload_n de_B_bestOf_79 2 rfl ?_
          refine ab_iload de_B_bestOf_80 5 rfl ?_
          refine ab_iload de_B_bestOf_82 0 rfl ?_
          refine ab_cV (as := [.int (nI (sp_en m i t)), .int (nI (sp_lv T c m i)), .int (nI (16 * p + q))]) (st := [.ref 16]) (ct_B_done l _ nr h g rr hT hO hm hi ht (sp_lv4 T c m i) (x := 16 * p + q) hmv_ hd) mo_B_done mi_B_done ml_B_94 rfl (by decide) rfl rfl rfl (Nat.le_of_ble_eq_true rfl) de_B_bestOf_84 (fun v_ M_ hK_ hl_ hv_ => ?_)
          obtain ⟨rfl, hm_⟩ := hK_
          have hm_ := hm_.symm
          subst hm_
          change ab_G _ _ _ _ _ _ _ [(10, .int (nI (16 * p + q))), (0, .ref 16), (1, .int (nI (sp_en m i t))), (2, .int (nI c)), (3, .int (nI (n + 1))), (4, .int (nI (sp_lv T c m i))), (5, .int b), (6, .int le), (7, .int (nI p)), (8, .int (nI (sp_tg T (sp_lv T c m i) m i p))), (9, .int (nI q))] [.int (nI (sp_en (sp_d2 T (sp_lv T c m i) m i (16 * p + q)) (sp_d1 T (sp_lv T c m i) m i (16 * p + q)) (1 - t))), .ref 16] (ab_S nr h g rr) _
          refine ab_iload_n de_B_bestOf_87 3 rfl ?_
          refine ab_iload_n de_B_bestOf_88 4 rfl ?_
          refine ab_iconst (v := 1) de_B_bestOf_89 rfl ?_
          refine ab_isub de_B_bestOf_90 ?_
          refine ab_top (v' := nI n) (sp_sub1 n) ?_
          refine ab_cV (as := [.int (nI (sp_en (sp_d2 T (sp_lv T c m i) m i (16 * p + q)) (sp_d1 T (sp_lv T c m i) m i (16 * p + q)) (1 - t))), .int (nI c), .int (nI n)]) (st := []) (hV (m := sp_d2 T (sp_lv T c m i) m i (16 * p + q)) (i := sp_d1 T (sp_lv T c m i) m i (16 * p + q)) (t := 1 - t) (sp_d2_lt hi hmv_.2.1) (sp_d1_lt hm hmv_.2.1) (by omega) (sp_dj_next hm hi hd hmv_.2.1)) mo_B_valueOf mi_B_valueOf ml_B_97 rfl (by decide) rfl rfl rfl (Nat.le_of_ble_eq_true rfl) de_B_bestOf_91 (fun v_ M_ hK_ hl_ hv_ => ?_)
          obtain ⟨rfl, hm_⟩ := hK_
          have hm_ := hm_.symm
          subst hm_
          change ab_G _ _ _ _ _ _ _ [(10, .int (nI (16 * p + q))), (0, .ref 16), (1, .int (nI (sp_en m i t))), (2, .int (nI c)), (3, .int (nI (n + 1))), (4, .int (nI (sp_lv T c m i))), (5, .int b), (6, .int le), (7, .int (nI p)), (8, .int (nI (sp_tg T (sp_lv T c m i) m i p))), (9, .int (nI q))] [.int (sp_vl T c n (sp_d2 T (sp_lv T c m i) m i (16 * p + q)) (sp_d1 T (sp_lv T c m i) m i (16 * p + q)))] (ab_S nr h g rr) _
          refine ab_istore (L' := [(11, .int (sp_vl T c n (sp_d2 T (sp_lv T c m i) m i (16 * p + q)) (sp_d1 T (sp_lv T c m i) m i (16 * p + q)))), (10, .int (nI (16 * p + q))), (0, .ref 16), (1, .int (nI (sp_en m i t))), (2, .int (nI c)), (3, .int (nI (n + 1))), (4, .int (nI (sp_lv T c m i))), (5, .int b), (6, .int le), (7, .int (nI p)), (8, .int (nI (sp_tg T (sp_lv T c m i) m i p))), (9, .int (nI q))]) de_B_bestOf_94 (by decide) rfl ?_
          refine ab_iload de_B_bestOf_96 0 rfl ?_
          refine ab_iload de_B_bestOf_98 8 rfl ?_
          refine ab_icmp_ge (tgt := 111) de_B_bestOf_100 rfl (fun c_100_4 => ?_) (fun c_100_4 => ?_)
          · refine ab_iinc (v := nI (q + 1)) (L' := [(9, .int (nI (q + 1))), (11, .int (sp_vl T c n (sp_d2 T (sp_lv T c m i) m i (16 * p + q)) (sp_d1 T (sp_lv T c m i) m i (16 * p + q)))), (10, .int (nI (16 * p + q))), (0, .ref 16), (1, .int (nI (sp_en m i t))), (2, .int (nI c)), (3, .int (nI (n + 1))), (4, .int (nI (sp_lv T c m i))), (5, .int b), (6, .int le), (7, .int (nI p)), (8, .int (nI (sp_tg T (sp_lv T c m i) m i p)))]) de_B_bestOf_111 11 rfl (by rw [show Int32.ofInt 1 = nI 1 from rfl, ab_add]) (by decide) rfl ?_
            refine ab_goto (tgt := 44) de_B_bestOf_114 rfl ?_
            refine ab_sub (L' := [(0, .ref 16), (1, .int (nI (sp_en m i t))), (2, .int (nI c)), (3, .int (nI (n + 1))), (4, .int (nI (sp_lv T c m i))), (5, .int b), (6, .int le), (7, .int (nI p)), (8, .int (nI (sp_tg T (sp_lv T c m i) m i p))), (9, .int (nI (q + 1)))]) [3, 4, 5, 6, 7, 8, 9, 10, 11, 0] rfl ?_
            exact ih (q + 1) b le (by omega) (by omega) (hf0.trans (by rw [sp_r12_t hq (ts_f c_64_3), List.cons_append, sp_bl, if_neg (show ¬ sp_vl T c n (sp_d2 T (sp_lv T c m i) m i (16 * p + q)) (sp_d1 T (sp_lv T c m i) m i (16 * p + q)) < le from Int32.not_lt.mpr c_100_4)])) (hf1)
          · refine ab_iload de_B_bestOf_103 0 rfl ?_
            refine ab_istore (L' := [(6, .int (sp_vl T c n (sp_d2 T (sp_lv T c m i) m i (16 * p + q)) (sp_d1 T (sp_lv T c m i) m i (16 * p + q)))), (11, .int (sp_vl T c n (sp_d2 T (sp_lv T c m i) m i (16 * p + q)) (sp_d1 T (sp_lv T c m i) m i (16 * p + q)))), (10, .int (nI (16 * p + q))), (0, .ref 16), (1, .int (nI (sp_en m i t))), (2, .int (nI c)), (3, .int (nI (n + 1))), (4, .int (nI (sp_lv T c m i))), (5, .int b), (7, .int (nI p)), (8, .int (nI (sp_tg T (sp_lv T c m i) m i p))), (9, .int (nI q))]) de_B_bestOf_105 (by decide) rfl ?_
            refine ab_iload de_B_bestOf_107 2 rfl ?_
            refine ab_istore (L' := [(5, .int (nI (16 * p + q))), (6, .int (sp_vl T c n (sp_d2 T (sp_lv T c m i) m i (16 * p + q)) (sp_d1 T (sp_lv T c m i) m i (16 * p + q)))), (11, .int (sp_vl T c n (sp_d2 T (sp_lv T c m i) m i (16 * p + q)) (sp_d1 T (sp_lv T c m i) m i (16 * p + q)))), (10, .int (nI (16 * p + q))), (0, .ref 16), (1, .int (nI (sp_en m i t))), (2, .int (nI c)), (3, .int (nI (n + 1))), (4, .int (nI (sp_lv T c m i))), (7, .int (nI p)), (8, .int (nI (sp_tg T (sp_lv T c m i) m i p))), (9, .int (nI q))]) de_B_bestOf_109 (by decide) rfl ?_
            refine ab_iinc (v := nI (q + 1)) (L' := [(9, .int (nI (q + 1))), (5, .int (nI (16 * p + q))), (6, .int (sp_vl T c n (sp_d2 T (sp_lv T c m i) m i (16 * p + q)) (sp_d1 T (sp_lv T c m i) m i (16 * p + q)))), (11, .int (sp_vl T c n (sp_d2 T (sp_lv T c m i) m i (16 * p + q)) (sp_d1 T (sp_lv T c m i) m i (16 * p + q)))), (10, .int (nI (16 * p + q))), (0, .ref 16), (1, .int (nI (sp_en m i t))), (2, .int (nI c)), (3, .int (nI (n + 1))), (4, .int (nI (sp_lv T c m i))), (7, .int (nI p)), (8, .int (nI (sp_tg T (sp_lv T c m i) m i p)))]) de_B_bestOf_111 11 rfl (by rw [show Int32.ofInt 1 = nI 1 from rfl, ab_add]) (by decide) rfl ?_
            refine ab_goto (tgt := 44) de_B_bestOf_114 rfl ?_
            refine ab_sub (L' := [(0, .ref 16), (1, .int (nI (sp_en m i t))), (2, .int (nI c)), (3, .int (nI (n + 1))), (4, .int (nI (sp_lv T c m i))), (5, .int (nI (16 * p + q))), (6, .int (sp_vl T c n (sp_d2 T (sp_lv T c m i) m i (16 * p + q)) (sp_d1 T (sp_lv T c m i) m i (16 * p + q)))), (7, .int (nI p)), (8, .int (nI (sp_tg T (sp_lv T c m i) m i p))), (9, .int (nI (q + 1)))]) [5, 6, 7, 8, 9, 1, 2, 10, 11, 0] rfl ?_
            exact ih (q + 1) (nI (16 * p + q)) (sp_vl T c n (sp_d2 T (sp_lv T c m i) m i (16 * p + q)) (sp_d1 T (sp_lv T c m i) m i (16 * p + q))) (by omega) (by omega) (hf0.trans (by rw [sp_r12_t hq (ts_f c_64_3), List.cons_append, sp_bl, if_pos (show sp_vl T c n (sp_d2 T (sp_lv T c m i) m i (16 * p + q)) (sp_d1 T (sp_lv T c m i) m i (16 * p + q)) < le from Int32.not_le.mp c_100_4)])) (sp_rg_ge (sp_vl_rg _ _ _ _ _))
set_option maxHeartbeats 1000000 in
set_option maxRecDepth 10000 in
theorem lp_B_bestOf_p (l : Launch) (d : Nat) (nr : Nat) (h : Nat → Nat → Int32) (g : Nat → Nat → Int64) (rr : Nat → Option Nat) {T : Nat → Nat → Nat} (hT : bo_T T h 17) (hO : sp_ok T) {m i t c n e : Nat} (hm : m < 4096) (hi : i < 4096) (ht : t < 2) (hc : c < 4096) (hd : sp_dj m i) (hn : n < 3) (hV : ∀ {m i t : Nat}, m < 4096 → i < 4096 → t < 2 → sp_dj m i → ab_C l am_B_valueOf (e + 5) 0 0 [.ref 16, .int (nI (sp_en m i t)), .int (nI c), .int (nI n)] (ab_S nr h g rr) (fun (r_ : Option Value) (M' : ab_Me) => r_ = some (.int (sp_vl T c n m i)) ∧ M' = (ab_S nr h g rr))) : ∀ (fu_ p : Nat) (b le : Int32), p ≤ 16 → 16 < p + fu_ → sp_bl (fun x => sp_vl T c n (sp_d2 T (sp_lv T c m i) m i x) (sp_d1 T (sp_lv T c m i) m i x)) (sp_ml T (sp_lv T c m i) m i) (-1, 2) = sp_bl (fun x => sp_vl T c n (sp_d2 T (sp_lv T c m i) m i x) (sp_d1 T (sp_lv T c m i) m i x)) (sp_r16 (sp_mp T (sp_lv T c m i) m i) (16 - p) p) (b, le) → -1 ≤ le → ab_G l none am_B_bestOf (e + 6) 0 0 17 [(0, .ref 16), (1, .int (nI (sp_en m i t))), (2, .int (nI c)), (3, .int (nI (n + 1))), (4, .int (nI (sp_lv T c m i))), (5, .int b), (6, .int le), (7, .int (nI p))] [] (ab_S nr h g rr) (fun (r_ : Option Value) (M' : ab_Me) => r_ = some (.int ((sp_bl (fun x => sp_vl T c n (sp_d2 T (sp_lv T c m i) m i x) (sp_d1 T (sp_lv T c m i) m i x)) (sp_ml T (sp_lv T c m i) m i) (-1, 2)).1)) ∧ M' = (ab_S nr h g rr)) := by
  intro fu_
  induction fu_ with
  | zero => intro p b le h1 h2; omega
  | succ fu_ ih =>
    intro p b le hN_ hn_ hf0 hf1
    refine ab_iload de_B_bestOf_17 7 rfl ?_
    refine ab_bipush (v := 15) de_B_bestOf_19 rfl ?_
    refine ab_icmp_gt (tgt := 123) de_B_bestOf_21 rfl (fun c_21_1 => ?_) (fun c_21_1 => ?_)
    · have hp := ab_lt_of (n := 15) (by decide) (by omega) rfl c_21_1
      refine ab_iload de_B_bestOf_123 5 rfl ?_
      exact ab_ret (v := some (.int b)) de_B_bestOf_125 ⟨_, rfl⟩ ⟨congrArg (fun z => some (Value.int z)) (by rw [hf0, sp_r16_e (by omega)]; rfl), rfl⟩
    · have hp := ab_nlt_of (n := 15) (by decide) (by omega) rfl c_21_1
      refine ab_iload de_B_bestOf_24 6 rfl ?_
      refine ab_iconst (v := -1) de_B_bestOf_26 rfl ?_
      refine ab_icmp_le (tgt := 123) de_B_bestOf_27 rfl (fun c_27_2 => ?_) (fun c_27_2 => ?_)
      · refine ab_iload de_B_bestOf_123 5 rfl ?_
        exact ab_ret (v := some (.int b)) de_B_bestOf_125 ⟨_, rfl⟩ ⟨congrArg (fun z => some (Value.int z)) (by rw [hf0, sp_le1 hf1 c_27_2, sp_bl_1 (fun x => sp_rg_ge (sp_vl_rg _ _ _ _ _))]), rfl⟩
      · refine ab_aload_n de_B_bestOf_30 0 rfl ?_
        refine ab_iload_n de_B_bestOf_31 1 rfl ?_
        refine ab_iload de_B_bestOf_32 4 rfl ?_
        refine ab_iload de_B_bestOf_34 7 rfl ?_
        refine ab_cV (as := [.int (nI (sp_en m i t)), .int (nI (sp_lv T c m i)), .int (nI p)]) (st := []) (ct_B_targets l _ nr h g rr hT hO hm hi ht (v := sp_lv T c m i) (sp_lv4 T c m i) (p := p) (by omega)) mo_B_targets mi_B_targets ml_B_58 rfl (by decide) rfl rfl rfl (Nat.le_of_ble_eq_true rfl) de_B_bestOf_36 (fun v_ M_ hK_ hl_ hv_ => ?_)
        obtain ⟨rfl, hm_⟩ := hK_
        have hm_ := hm_.symm
        subst hm_
        change ab_G _ _ _ _ _ _ _ [(0, .ref 16), (1, .int (nI (sp_en m i t))), (2, .int (nI c)), (3, .int (nI (n + 1))), (4, .int (nI (sp_lv T c m i))), (5, .int b), (6, .int le), (7, .int (nI p))] [.int (nI (sp_tg T (sp_lv T c m i) m i p))] (ab_S nr h g rr) _
        refine ab_istore (L' := [(8, .int (nI (sp_tg T (sp_lv T c m i) m i p))), (0, .ref 16), (1, .int (nI (sp_en m i t))), (2, .int (nI c)), (3, .int (nI (n + 1))), (4, .int (nI (sp_lv T c m i))), (5, .int b), (6, .int le), (7, .int (nI p))]) de_B_bestOf_39 (by decide) rfl ?_
        refine ab_iconst (v := 0) de_B_bestOf_41 rfl ?_
        refine ab_istore (L' := [(9, .int (0 : Int32)), (8, .int (nI (sp_tg T (sp_lv T c m i) m i p))), (0, .ref 16), (1, .int (nI (sp_en m i t))), (2, .int (nI c)), (3, .int (nI (n + 1))), (4, .int (nI (sp_lv T c m i))), (5, .int b), (6, .int le), (7, .int (nI p))]) de_B_bestOf_42 (by decide) rfl ?_
        refine ab_sub (L' := [(0, .ref 16), (1, .int (nI (sp_en m i t))), (2, .int (nI c)), (3, .int (nI (n + 1))), (4, .int (nI (sp_lv T c m i))), (5, .int b), (6, .int le), (7, .int (nI p)), (8, .int (nI (sp_tg T (sp_lv T c m i) m i p))), (9, .int (0 : Int32))]) [2, 3, 4, 5, 6, 7, 8, 9, 1, 0] rfl ?_
        refine lp_B_bestOf_q l d nr h g rr hT hO hm hi ht hc hd hn hV (p := p) (by omega) (fun b le hle hx => ?_) 13 0 b le (by omega) (by omega) (hf0.trans (by rw [sp_r16_s (by omega)]; rfl)) hf1
        refine ab_iinc (v := nI (p + 1)) (L' := [(7, .int (nI (p + 1))), (0, .ref 16), (1, .int (nI (sp_en m i t))), (2, .int (nI c)), (3, .int (nI (n + 1))), (4, .int (nI (sp_lv T c m i))), (5, .int b), (6, .int le)]) de_B_bestOf_117 7 rfl (by rw [show Int32.ofInt 1 = nI 1 from rfl, ab_add]) (by decide) rfl ?_
        refine ab_goto (tgt := 17) de_B_bestOf_120 rfl ?_
        refine ab_sub (L' := [(0, .ref 16), (1, .int (nI (sp_en m i t))), (2, .int (nI c)), (3, .int (nI (n + 1))), (4, .int (nI (sp_lv T c m i))), (5, .int b), (6, .int le), (7, .int (nI (p + 1)))]) [1, 2, 3, 4, 5, 6, 7, 0] rfl ?_
        exact ih (p + 1) b le (by omega) (by omega) hx hle
set_option maxHeartbeats 1000000 in
set_option maxRecDepth 10000 in
theorem ct_B_bestOf (l : Launch) (d : Nat) (nr : Nat) (h : Nat → Nat → Int32) (g : Nat → Nat → Int64) (rr : Nat → Option Nat) {T : Nat → Nat → Nat} (hT : bo_T T h 17) (hO : sp_ok T) {m i t c n e : Nat} (hm : m < 4096) (hi : i < 4096) (ht : t < 2) (hc : c < 4096) (hd : sp_dj m i) (hn : n < 3) (hV : ∀ {m i t : Nat}, m < 4096 → i < 4096 → t < 2 → sp_dj m i → ab_C l am_B_valueOf (e + 5) 0 0 [.ref 16, .int (nI (sp_en m i t)), .int (nI c), .int (nI n)] (ab_S nr h g rr) (fun (r_ : Option Value) (M' : ab_Me) => r_ = some (.int (sp_vl T c n m i)) ∧ M' = (ab_S nr h g rr))) : ab_C l am_B_bestOf (e + 6) 0 0 [.ref 16, .int (nI (sp_en m i t)), .int (nI c), .int (nI (n + 1))] (ab_S nr h g rr) (fun (r_ : Option Value) (M' : ab_Me) => r_ = some (.int ((sp_bl (fun x => sp_vl T c n (sp_d2 T (sp_lv T c m i) m i x) (sp_d1 T (sp_lv T c m i) m i x)) (sp_ml T (sp_lv T c m i) m i) (-1, 2)).1)) ∧ M' = (ab_S nr h g rr)) := by
  refine ab_C_of (by decide +kernel) rfl (Nat.le_of_ble_eq_true rfl) ?_
  refine ab_aload_n de_B_bestOf_0 0 rfl ?_
  refine ab_iload_n de_B_bestOf_1 1 rfl ?_
  refine ab_iload_n de_B_bestOf_2 2 rfl ?_
  refine ab_cV (as := [.int (nI (sp_en m i t)), .int (nI c)]) (st := []) (ct_B_live l _ nr h g rr hT hO hm hi ht hc) mo_B_live mi_B_live ml_B_45 rfl (by decide) rfl rfl rfl (Nat.le_of_ble_eq_true rfl) de_B_bestOf_3 (fun v_ M_ hK_ hl_ hv_ => ?_)
  obtain ⟨rfl, hm_⟩ := hK_
  have hm_ := hm_.symm
  subst hm_
  change ab_G _ _ _ _ _ _ _ [(0, .ref 16), (1, .int (nI (sp_en m i t))), (2, .int (nI c)), (3, .int (nI (n + 1)))] [.int (nI (sp_lv T c m i))] (ab_S nr h g rr) _
  refine ab_istore (L' := [(4, .int (nI (sp_lv T c m i))), (0, .ref 16), (1, .int (nI (sp_en m i t))), (2, .int (nI c)), (3, .int (nI (n + 1)))]) de_B_bestOf_6 (by decide) rfl ?_
  refine ab_iconst (v := -1) de_B_bestOf_8 rfl ?_
  refine ab_istore (L' := [(5, .int (-1 : Int32)), (4, .int (nI (sp_lv T c m i))), (0, .ref 16), (1, .int (nI (sp_en m i t))), (2, .int (nI c)), (3, .int (nI (n + 1)))]) de_B_bestOf_9 (by decide) rfl ?_
  refine ab_iconst (v := 2) de_B_bestOf_11 rfl ?_
  refine ab_istore (L' := [(6, .int (2 : Int32)), (5, .int (-1 : Int32)), (4, .int (nI (sp_lv T c m i))), (0, .ref 16), (1, .int (nI (sp_en m i t))), (2, .int (nI c)), (3, .int (nI (n + 1)))]) de_B_bestOf_12 (by decide) rfl ?_
  refine ab_iconst (v := 0) de_B_bestOf_14 rfl ?_
  refine ab_istore (L' := [(7, .int (0 : Int32)), (6, .int (2 : Int32)), (5, .int (-1 : Int32)), (4, .int (nI (sp_lv T c m i))), (0, .ref 16), (1, .int (nI (sp_en m i t))), (2, .int (nI c)), (3, .int (nI (n + 1)))]) de_B_bestOf_15 (by decide) rfl ?_
  refine ab_sub (L' := [(0, .ref 16), (1, .int (nI (sp_en m i t))), (2, .int (nI c)), (3, .int (nI (n + 1))), (4, .int (nI (sp_lv T c m i))), (5, .int (-1 : Int32)), (6, .int (2 : Int32)), (7, .int (0 : Int32))]) [4, 5, 6, 7, 3, 2, 1, 0] rfl ?_
  exact lp_B_bestOf_p l d nr h g rr hT hO hm hi ht hc hd hn hV 17 0 (-1) 2 (by omega) (by omega) rfl (by decide)
theorem sp_c512 {c : Nat} (hc : c < 4096) : ((512 : Int32) ≤ nI c ↔ 512 ≤ c) := ab_le (a := 512) (by decide) (by omega)
theorem sp_wn_no {T : Nat → Nat → Nat} {c m i t : Nat} (ht : t < 2) : sp_wn T c m i t = -1 ↔ sp_ov T c m i = false := by
  unfold sp_wn
  cases h : sp_ov T c m i with
  | false => simp
  | true =>
    rw [if_pos rfl]
    rcases (by omega : t = 0 ∨ t = 1) with rfl | rfl <;> decide
set_option maxHeartbeats 1000000 in
set_option maxRecDepth 10000 in
theorem ct_B_valueOf_0 (l : Launch) (d : Nat) (nr : Nat) (h : Nat → Nat → Int32) (g : Nat → Nat → Int64) (rr : Nat → Option Nat) {T : Nat → Nat → Nat} (hT : bo_T T h 17) (hO : sp_ok T) {m i t c : Nat} (hm : m < 4096) (hi : i < 4096) (ht : t < 2) (hc : c < 4096) : ab_C l am_B_valueOf (d + 5) 0 0 [.ref 16, .int (nI (sp_en m i t)), .int (nI c), .int (0 : Int32)] (ab_S nr h g rr) (fun (r_ : Option Value) (M' : ab_Me) => r_ = some (.int (sp_vl T c 0 m i)) ∧ M' = (ab_S nr h g rr)) := by
  refine ab_C_of (by decide +kernel) rfl (Nat.le_of_ble_eq_true rfl) ?_
  refine ab_iload_n de_B_valueOf_0 2 rfl ?_
  refine ab_sipush (v := 512) de_B_valueOf_1 rfl ?_
  refine ab_icmp_ge (tgt := 9) de_B_valueOf_4 rfl (fun c_4_1 => ?_) (fun c_4_1 => ?_)
  · refine ab_aload_n de_B_valueOf_9 0 rfl ?_
    refine ab_iload_n de_B_valueOf_10 1 rfl ?_
    refine ab_iload_n de_B_valueOf_11 2 rfl ?_
    refine ab_cV (as := [.int (nI (sp_en m i t)), .int (nI c)]) (st := []) (ct_B_winner l _ nr h g rr hT hO hm hi ht hc) mo_B_winner mi_B_winner ml_B_88 rfl (by decide) rfl rfl rfl (Nat.le_of_ble_eq_true rfl) de_B_valueOf_12 (fun v_ M_ hK_ hl_ hv_ => ?_)
    obtain ⟨rfl, hm_⟩ := hK_
    have hm_ := hm_.symm
    subst hm_
    change ab_G _ _ _ _ _ _ _ [(0, .ref 16), (1, .int (nI (sp_en m i t))), (2, .int (nI c)), (3, .int (0 : Int32))] [.int (sp_wn T c m i t)] (ab_S nr h g rr) _
    refine ab_iconst (v := -1) de_B_valueOf_15 rfl ?_
    refine ab_icmp_eq (tgt := 21) de_B_valueOf_16 rfl (fun c_16_2 => ?_) (fun c_16_2 => ?_)
    · refine ab_iload_n de_B_valueOf_21 3 rfl ?_
      refine ab_if_gt (tgt := 29) de_B_valueOf_22 rfl (fun c_22_3 => ?_) (fun c_22_3 => ?_)
      · exact absurd c_22_3 (by decide)
      · refine ab_iconst (v := -1) de_B_valueOf_25 rfl ?_
        refine ab_goto (tgt := 36) de_B_valueOf_26 rfl ?_
        refine ab_istore (L' := [(4, .int (-1 : Int32)), (0, .ref 16), (1, .int (nI (sp_en m i t))), (2, .int (nI c)), (3, .int (0 : Int32))]) de_B_valueOf_36 (by decide) rfl ?_
        refine ab_iload de_B_valueOf_38 0 rfl ?_
        refine ab_iconst (v := -1) de_B_valueOf_40 rfl ?_
        refine ab_icmp_ne (tgt := 46) de_B_valueOf_41 rfl (fun c_41_4 => ?_) (fun c_41_4 => ?_)
        · exact absurd rfl c_41_4
        · refine ab_iconst (v := 0) de_B_valueOf_44 rfl ?_
          exact ab_ret (v := some (.int (0 : Int32))) de_B_valueOf_45 ⟨_, rfl⟩ ⟨congrArg (fun z => some (Value.int z)) (by rw [sp_vl, if_neg (show ¬ sp_ov T c m i = true by rw [(sp_wn_no ht).mp c_16_2]; decide)]), rfl⟩
    · refine ab_iconst (v := -1) de_B_valueOf_19 rfl ?_
      exact ab_ret (v := some (.int (-1 : Int32))) de_B_valueOf_20 ⟨_, rfl⟩ ⟨congrArg (fun z => some (Value.int z)) (by rw [sp_vl, if_pos (sp_n1 (fun z => c_16_2 ((sp_wn_no ht).mpr z)))]), rfl⟩
  · refine ab_iconst (v := 0) de_B_valueOf_7 rfl ?_
    exact ab_ret (v := some (.int (0 : Int32))) de_B_valueOf_8 ⟨_, rfl⟩ ⟨congrArg (fun z => some (Value.int z)) (by rw [sp_vl_low (Nat.lt_of_not_le (fun z => c_4_1 ((sp_c512 hc).mpr z)))]), rfl⟩
/-- the move found is one of the list, and its value is the least -/
theorem sp_bl_at {f : Nat → Int32} : ∀ (l : List Nat) (b le : Int32), ((sp_bl f l (b, le)).1 = b ∧ (sp_bl f l (b, le)).2 = le) ∨ ∃ a, a ∈ l ∧ (sp_bl f l (b, le)).1 = nI a ∧ (sp_bl f l (b, le)).2 = f a
  | [], b, le => Or.inl ⟨rfl, rfl⟩
  | a :: l, b, le => by
    rw [sp_bl]
    dsimp only
    split
    · rcases sp_bl_at l (nI a) (f a) with ⟨h1, h2⟩ | ⟨x, hx, h1, h2⟩
      · exact Or.inr ⟨a, List.mem_cons_self, h1, h2⟩
      · exact Or.inr ⟨x, List.mem_cons_of_mem _ hx, h1, h2⟩
    · rcases sp_bl_at l b le with h | ⟨x, hx, h1, h2⟩
      · exact Or.inl h
      · exact Or.inr ⟨x, List.mem_cons_of_mem _ hx, h1, h2⟩
theorem sp_r12_mem {f : Nat → Bool} {g : Nat → Nat} : ∀ n q a, a ∈ sp_r12 f g n q → ∃ k, q ≤ k ∧ k < q + n ∧ f k = true ∧ a = g k
  | 0, q, a, h => by cases h
  | n + 1, q, a, h => by
    rw [sp_r12] at h
    split at h
    · rename_i hf
      rcases List.mem_cons.mp h with e | h
      · exact ⟨q, Nat.le_refl _, by omega, hf, e⟩
      · obtain ⟨k, h1, h2, h3⟩ := sp_r12_mem n (q + 1) a h
        exact ⟨k, by omega, by omega, h3⟩
    · obtain ⟨k, h1, h2, h3⟩ := sp_r12_mem n (q + 1) a h
      exact ⟨k, by omega, by omega, h3⟩
theorem sp_ml_mv {T : Nat → Nat → Nat} {v m i a : Nat} (hm : m < 4096) (h : a ∈ sp_ml T v m i) : sp_mv a := by
  obtain ⟨p, -, h2, h3⟩ := sp_r16_mem 16 0 a h
  obtain ⟨q, -, h4, h5, rfl⟩ := sp_r12_mem 12 0 a h3
  exact sp_tg_mv hm (by omega) (by omega) h5
theorem sp_mv_lt {x : Nat} (h : sp_mv x) : x < 252 := h.1
theorem sp_gt0 (n : Nat) (hn : n < 3) : (0 : Int32) < nI (n + 1) := (ab_lt (a := 0) (by decide) (by omega)).mpr (by omega)
set_option maxHeartbeats 1000000 in
set_option maxRecDepth 10000 in
theorem ct_B_valueOf_s (l : Launch) (d : Nat) (nr : Nat) (h : Nat → Nat → Int32) (g : Nat → Nat → Int64) (rr : Nat → Option Nat) {T : Nat → Nat → Nat} (hT : bo_T T h 17) (hO : sp_ok T) {m i t c n e : Nat} (hm : m < 4096) (hi : i < 4096) (ht : t < 2) (hc : c < 4096) (hd : sp_dj m i) (hn : n < 3) (hV : ∀ {m i t : Nat}, m < 4096 → i < 4096 → t < 2 → sp_dj m i → ab_C l am_B_valueOf (e + 5) 0 0 [.ref 16, .int (nI (sp_en m i t)), .int (nI c), .int (nI n)] (ab_S nr h g rr) (fun (r_ : Option Value) (M' : ab_Me) => r_ = some (.int (sp_vl T c n m i)) ∧ M' = (ab_S nr h g rr))) (hV6 : ∀ {m i t : Nat}, m < 4096 → i < 4096 → t < 2 → sp_dj m i → ab_C l am_B_valueOf (e + 6) 0 0 [.ref 16, .int (nI (sp_en m i t)), .int (nI c), .int (nI n)] (ab_S nr h g rr) (fun (r_ : Option Value) (M' : ab_Me) => r_ = some (.int (sp_vl T c n m i)) ∧ M' = (ab_S nr h g rr))) : ab_C l am_B_valueOf (e + 7) 0 0 [.ref 16, .int (nI (sp_en m i t)), .int (nI c), .int (nI (n + 1))] (ab_S nr h g rr) (fun (r_ : Option Value) (M' : ab_Me) => r_ = some (.int (sp_vl T c (n + 1) m i)) ∧ M' = (ab_S nr h g rr)) := by
  refine ab_C_of (by decide +kernel) rfl (Nat.le_of_ble_eq_true rfl) ?_
  refine ab_iload_n de_B_valueOf_0 2 rfl ?_
  refine ab_sipush (v := 512) de_B_valueOf_1 rfl ?_
  refine ab_icmp_ge (tgt := 9) de_B_valueOf_4 rfl (fun c_4_1 => ?_) (fun c_4_1 => ?_)
  · refine ab_aload_n de_B_valueOf_9 0 rfl ?_
    refine ab_iload_n de_B_valueOf_10 1 rfl ?_
    refine ab_iload_n de_B_valueOf_11 2 rfl ?_
    refine ab_cV (as := [.int (nI (sp_en m i t)), .int (nI c)]) (st := []) (ct_B_winner l _ nr h g rr hT hO hm hi ht hc) mo_B_winner mi_B_winner ml_B_88 rfl (by decide) rfl rfl rfl (Nat.le_of_ble_eq_true rfl) de_B_valueOf_12 (fun v_ M_ hK_ hl_ hv_ => ?_)
    obtain ⟨rfl, hm_⟩ := hK_
    have hm_ := hm_.symm
    subst hm_
    change ab_G _ _ _ _ _ _ _ [(0, .ref 16), (1, .int (nI (sp_en m i t))), (2, .int (nI c)), (3, .int (nI (n + 1)))] [.int (sp_wn T c m i t)] (ab_S nr h g rr) _
    refine ab_iconst (v := -1) de_B_valueOf_15 rfl ?_
    refine ab_icmp_eq (tgt := 21) de_B_valueOf_16 rfl (fun c_16_2 => ?_) (fun c_16_2 => ?_)
    · refine ab_iload_n de_B_valueOf_21 3 rfl ?_
      refine ab_if_gt (tgt := 29) de_B_valueOf_22 rfl (fun c_22_3 => ?_) (fun c_22_3 => ?_)
      · refine ab_aload_n de_B_valueOf_29 0 rfl ?_
        refine ab_iload_n de_B_valueOf_30 1 rfl ?_
        refine ab_iload_n de_B_valueOf_31 2 rfl ?_
        refine ab_iload_n de_B_valueOf_32 3 rfl ?_
        refine ab_cV (as := [.int (nI (sp_en m i t)), .int (nI c), .int (nI (n + 1))]) (st := []) (ct_B_bestOf l d nr h g rr hT hO hm hi ht hc hd hn hV) mo_B_bestOf mi_B_bestOf ml_B_91 rfl (by decide) rfl rfl rfl (Nat.le_of_ble_eq_true rfl) de_B_valueOf_33 (fun v_ M_ hK_ hl_ hv_ => ?_)
        obtain ⟨rfl, hm_⟩ := hK_
        have hm_ := hm_.symm
        subst hm_
        change ab_G _ _ _ _ _ _ _ [(0, .ref 16), (1, .int (nI (sp_en m i t))), (2, .int (nI c)), (3, .int (nI (n + 1)))] [.int ((sp_bl (fun x => sp_vl T c n (sp_d2 T (sp_lv T c m i) m i x) (sp_d1 T (sp_lv T c m i) m i x)) (sp_ml T (sp_lv T c m i) m i) (-1, 2)).1)] (ab_S nr h g rr) _
        refine ab_istore (L' := [(4, .int ((sp_bl (fun x => sp_vl T c n (sp_d2 T (sp_lv T c m i) m i x) (sp_d1 T (sp_lv T c m i) m i x)) (sp_ml T (sp_lv T c m i) m i) (-1, 2)).1)), (0, .ref 16), (1, .int (nI (sp_en m i t))), (2, .int (nI c)), (3, .int (nI (n + 1)))]) de_B_valueOf_36 (by decide) rfl ?_
        refine ab_iload de_B_valueOf_38 0 rfl ?_
        refine ab_iconst (v := -1) de_B_valueOf_40 rfl ?_
        refine ab_icmp_ne (tgt := 46) de_B_valueOf_41 rfl (fun c_41_4 => ?_) (fun c_41_4 => ?_)
        · have hat_ := sp_bl_at (f := (fun x => sp_vl T c n (sp_d2 T (sp_lv T c m i) m i x) (sp_d1 T (sp_lv T c m i) m i x))) (sp_ml T (sp_lv T c m i) m i) (-1) 2
          obtain ⟨x, hxm_, hx1_, hx2_⟩ : ∃ a, a ∈ sp_ml T (sp_lv T c m i) m i ∧ (sp_bl (fun x => sp_vl T c n (sp_d2 T (sp_lv T c m i) m i x) (sp_d1 T (sp_lv T c m i) m i x)) (sp_ml T (sp_lv T c m i) m i) (-1, 2)).1 = nI a ∧ (sp_bl (fun x => sp_vl T c n (sp_d2 T (sp_lv T c m i) m i x) (sp_d1 T (sp_lv T c m i) m i x)) (sp_ml T (sp_lv T c m i) m i) (-1, 2)).2 = (fun x => sp_vl T c n (sp_d2 T (sp_lv T c m i) m i x) (sp_d1 T (sp_lv T c m i) m i x)) a := hat_.elim (fun z => absurd z.1 c_41_4) id
          have hmv_ := sp_ml_mv hm hxm_
          refine ab_aload_n de_B_valueOf_46 1 rfl ?_
          refine ab_aload_n de_B_valueOf_47 1 rfl ?_
          refine ab_iload_n de_B_valueOf_48 2 rfl ?_
          refine ab_aload_n de_B_valueOf_49 1 rfl ?_
          refine ab_iload_n de_B_valueOf_50 2 rfl ?_
          refine ab_iload_n de_B_valueOf_51 3 rfl ?_
          refine ab_cV (as := [.int (nI (sp_en m i t)), .int (nI c)]) (st := [.int (nI (sp_en m i t)), .ref 16, .ref 16]) (ct_B_live l _ nr h g rr hT hO hm hi ht hc) mo_B_live mi_B_live ml_B_45 rfl (by decide) rfl rfl rfl (Nat.le_of_ble_eq_true rfl) de_B_valueOf_52 (fun v_ M_ hK_ hl_ hv_ => ?_)
          obtain ⟨rfl, hm_⟩ := hK_
          have hm_ := hm_.symm
          subst hm_
          change ab_G _ _ _ _ _ _ _ [(4, .int ((sp_bl (fun x => sp_vl T c n (sp_d2 T (sp_lv T c m i) m i x) (sp_d1 T (sp_lv T c m i) m i x)) (sp_ml T (sp_lv T c m i) m i) (-1, 2)).1)), (0, .ref 16), (1, .int (nI (sp_en m i t))), (2, .int (nI c)), (3, .int (nI (n + 1)))] [.int (nI (sp_lv T c m i)), .int (nI (sp_en m i t)), .ref 16, .ref 16] (ab_S nr h g rr) _
          refine ab_iload de_B_valueOf_55 0 rfl ?_
          refine ab_top (v' := nI x) (hx1_) ?_
          refine ab_cV (as := [.int (nI (sp_en m i t)), .int (nI (sp_lv T c m i)), .int (nI x)]) (st := [.ref 16]) (ct_B_done l _ nr h g rr hT hO hm hi ht (sp_lv4 T c m i) (x := x) hmv_ hd) mo_B_done mi_B_done ml_B_94 rfl (by decide) rfl rfl rfl (Nat.le_of_ble_eq_true rfl) de_B_valueOf_57 (fun v_ M_ hK_ hl_ hv_ => ?_)
          obtain ⟨rfl, hm_⟩ := hK_
          have hm_ := hm_.symm
          subst hm_
          change ab_G _ _ _ _ _ _ _ [(4, .int ((sp_bl (fun x => sp_vl T c n (sp_d2 T (sp_lv T c m i) m i x) (sp_d1 T (sp_lv T c m i) m i x)) (sp_ml T (sp_lv T c m i) m i) (-1, 2)).1)), (0, .ref 16), (1, .int (nI (sp_en m i t))), (2, .int (nI c)), (3, .int (nI (n + 1)))] [.int (nI (sp_en (sp_d2 T (sp_lv T c m i) m i x) (sp_d1 T (sp_lv T c m i) m i x) (1 - t))), .ref 16] (ab_S nr h g rr) _
          refine ab_iload_n de_B_valueOf_60 3 rfl ?_
          refine ab_iload_n de_B_valueOf_61 4 rfl ?_
          refine ab_iconst (v := 1) de_B_valueOf_62 rfl ?_
          refine ab_isub de_B_valueOf_63 ?_
          refine ab_top (v' := nI n) (sp_sub1 n) ?_
          refine ab_cV (as := [.int (nI (sp_en (sp_d2 T (sp_lv T c m i) m i x) (sp_d1 T (sp_lv T c m i) m i x) (1 - t))), .int (nI c), .int (nI n)]) (st := []) (hV6 (m := sp_d2 T (sp_lv T c m i) m i x) (i := sp_d1 T (sp_lv T c m i) m i x) (t := 1 - t) (sp_d2_lt hi hmv_.2.1) (sp_d1_lt hm hmv_.2.1) (by omega) (sp_dj_next hm hi hd hmv_.2.1)) mo_B_valueOf mi_B_valueOf ml_B_97 rfl (by decide) rfl rfl rfl (Nat.le_of_ble_eq_true rfl) de_B_valueOf_64 (fun v_ M_ hK_ hl_ hv_ => ?_)
          obtain ⟨rfl, hm_⟩ := hK_
          have hm_ := hm_.symm
          subst hm_
          change ab_G _ _ _ _ _ _ _ [(4, .int ((sp_bl (fun x => sp_vl T c n (sp_d2 T (sp_lv T c m i) m i x) (sp_d1 T (sp_lv T c m i) m i x)) (sp_ml T (sp_lv T c m i) m i) (-1, 2)).1)), (0, .ref 16), (1, .int (nI (sp_en m i t))), (2, .int (nI c)), (3, .int (nI (n + 1)))] [.int (sp_vl T c n (sp_d2 T (sp_lv T c m i) m i x) (sp_d1 T (sp_lv T c m i) m i x))] (ab_S nr h g rr) _
          refine ab_ineg de_B_valueOf_67 ?_
          exact ab_ret (v := some (.int (-(sp_vl T c n (sp_d2 T (sp_lv T c m i) m i x) (sp_d1 T (sp_lv T c m i) m i x))))) de_B_valueOf_68 ⟨_, rfl⟩ ⟨congrArg (fun z => some (Value.int z)) (by rw [sp_vl, if_neg (show ¬ sp_ov T c m i = true by rw [(sp_wn_no ht).mp c_16_2]; decide), if_neg c_41_4, hx2_]), rfl⟩
        · refine ab_iconst (v := 0) de_B_valueOf_44 rfl ?_
          exact ab_ret (v := some (.int (0 : Int32))) de_B_valueOf_45 ⟨_, rfl⟩ ⟨congrArg (fun z => some (Value.int z)) (by rw [sp_vl, if_neg (show ¬ sp_ov T c m i = true by rw [(sp_wn_no ht).mp c_16_2]; decide), if_pos c_41_4]), rfl⟩
      · exact absurd (sp_gt0 n hn) (by simpa using c_22_3)
    · refine ab_iconst (v := -1) de_B_valueOf_19 rfl ?_
      exact ab_ret (v := some (.int (-1 : Int32))) de_B_valueOf_20 ⟨_, rfl⟩ ⟨congrArg (fun z => some (Value.int z)) (by rw [sp_vl, if_pos (sp_n1 (fun z => c_16_2 ((sp_wn_no ht).mpr z)))]), rfl⟩
  · refine ab_iconst (v := 0) de_B_valueOf_7 rfl ?_
    exact ab_ret (v := some (.int (0 : Int32))) de_B_valueOf_8 ⟨_, rfl⟩ ⟨congrArg (fun z => some (Value.int z)) (by rw [sp_vl_low (Nat.lt_of_not_le (fun z => c_4_1 ((sp_c512 hc).mpr z)))]), rfl⟩
