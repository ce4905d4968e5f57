/-! know() -/
abbrev sp_f (T : Nat → Nat → Nat) (Z : sp_G) : Nat → Bool := sp_ok1 T Z
theorem sp_f0 (T : Nat → Nat → Nat) (Z : sp_G) : sp_f T Z 0 = false := rfl
set_option maxHeartbeats 1000000 in
set_option maxRecDepth 10000 in
theorem lp_F_know_g (l : Launch) (d : Nat) (nr : Nat) (h : Nat → Nat → Int32) (g : Nat → Nat → Int64) (rr : Nat → Option Nat) {T : Nat → Nat → Nat} (hT : bo_T T h 17) (hO : sp_ok T) {Z : sp_G} (hZ : gm_ok Z) (hG : gm_C Z h) {b : Nat} (hb : b < 512) (h6_ : gN Z ≤ 6) {K : Option Value → ab_Me → Prop} (kx : ab_G l none am_F_know (d + 7) 0 0 55 [(0, .ref 14), (1, .int (nI b)), (2, .int (nI (sp_eb T Z b (gN Z))))] [] (ab_S nr h g rr) (K)) : ∀ (fu_ z : Nat), z ≤ gN Z → gN Z < z + fu_ → ab_G l none am_F_know (d + 7) 0 0 22 [(0, .ref 14), (1, .int (nI b)), (2, .int (nI (sp_eb T Z b z))), (3, .int (nI z))] [] (ab_S nr h g rr) (K) := by
  intro fu_
  induction fu_ with
  | zero => intro z  h1 h2; omega
  | succ fu_ ih =>
    intro z  hN_ hn_ 
    refine ab_iload_n de_F_know_22 3 rfl ?_
    refine ab_aload_n de_F_know_23 0 rfl ?_
    refine ab_get (v := .ref 15) fl_F_12 rfl rfl de_F_know_24 ?_
    refine ab_get (v := .int (h 15 5)) fl_F_59 rfl rfl de_F_know_27 ?_
    refine ab_top (v' := nI (gN Z)) (hG.1) ?_
    refine ab_icmp_ge (tgt := 55) de_F_know_30 rfl (fun c_30_1 => ?_) (fun c_30_1 => ?_)
    · have hz := (ab_le (by omega) (by omega)).mp c_30_1
      refine ab_sub (L' := [(0, .ref 14), (1, .int (nI b)), (2, .int (nI (sp_eb T Z b z)))]) [0, 1, 2] rfl ?_
      have e_ : z = gN Z := by omega
      rw [e_]
      exact kx
    · have hz := Nat.lt_of_not_le (fun z_ => c_30_1 ((ab_le (by omega) (by omega)).mpr z_))
      have hz__ := hz
      refine ab_iload_n de_F_know_33 2 rfl ?_
      refine ab_if_eq (tgt := 55) de_F_know_34 rfl (fun c_34_2 => ?_) (fun c_34_2 => ?_)
      · refine ab_sub (L' := [(0, .ref 14), (1, .int (nI b)), (2, .int (nI (sp_eb T Z b z)))]) [0, 1, 2] rfl ?_
        have z0 : sp_eb T Z b z = 0 := (ab_inj (b := 0) (by have := sp_eb_lt T Z b z; omega) (by decide)).mp c_34_2
        have e_ : sp_eb T Z b z = sp_eb T Z b (gN Z) := by rw [z0, sp_eb_0 z0 (gN Z) (by omega)]
        rw [e_]
        exact kx
      · refine ab_iload_n de_F_know_37 2 rfl ?_
        refine ab_aload_n de_F_know_38 0 rfl ?_
        refine ab_get (v := .ref 15) fl_F_12 rfl rfl de_F_know_39 ?_
        refine ab_iload_n de_F_know_42 3 rfl ?_
        refine ab_iload_n de_F_know_43 1 rfl ?_
        refine ab_cV (as := [.int (nI z), .int (nI b)]) (st := [.int (nI (sp_eb T Z b z))]) (ct_G_endsFitting l _ nr h g rr hT hO hZ hG (g := z) (by omega) (c := b) (by omega)) mo_G_endsFitting mi_G_endsFitting ml_F_60 rfl (by decide) rfl rfl rfl (Nat.le_of_ble_eq_true rfl) de_F_know_44 (fun v_ M_ hK_ hl_ hv_ => ?_)
        obtain ⟨rfl, hm_⟩ := hK_
        have hm_ := hm_.symm
        subst hm_
        change ab_G _ _ _ _ _ _ _ [(0, .ref 14), (1, .int (nI b)), (2, .int (nI (sp_eb T Z b z))), (3, .int (nI z))] [.int (nI (sp_ef T b Z z)), .int (nI (sp_eb T Z b z))] (ab_S nr h g rr) _
        refine ab_iand de_F_know_47 ?_
        refine ab_top (v' := nI (sp_eb T Z b (z + 1))) (ab_and _ _) ?_
        refine ab_istore_n (L' := [(2, .int (nI (sp_eb T Z b (z + 1)))), (0, .ref 14), (1, .int (nI b)), (3, .int (nI z))]) de_F_know_48 (by decide) rfl ?_
        refine ab_iinc (v := nI (z + 1)) (L' := [(3, .int (nI (z + 1))), (2, .int (nI (sp_eb T Z b (z + 1)))), (0, .ref 14), (1, .int (nI b))]) de_F_know_49 3 rfl (by rw [show Int32.ofInt 1 = nI 1 from rfl, ab_add]) (by decide) rfl ?_
        refine ab_goto (tgt := 22) de_F_know_52 rfl ?_
        refine ab_sub (L' := [(0, .ref 14), (1, .int (nI b)), (2, .int (nI (sp_eb T Z b (z + 1)))), (3, .int (nI (z + 1)))]) [2, 3, 1, 0] rfl ?_
        exact ih (z + 1)  (by omega) (by omega) 
set_option maxHeartbeats 1000000 in
set_option maxRecDepth 10000 in
theorem sg_F_know (l : Launch) (d : Nat) (nr : Nat) (h : Nat → Nat → Int32) (g : Nat → Nat → Int64) (rr : Nat → Option Nat) {T : Nat → Nat → Nat} {Z : sp_G} {b : Nat} (hb : b < 512) {K : Option Value → ab_Me → Prop} (kx : ab_G l none am_F_know (d + 7) 0 0 2 [(0, .ref 14), (1, .int (nI (b + 1)))] [] (ab_S nr (ab_u2 h 24 b (nI (sp_ends T Z b))) g rr) (K)) : ab_G l none am_F_know (d + 7) 0 0 55 [(0, .ref 14), (1, .int (nI b)), (2, .int (nI (sp_eb T Z b (gN Z))))] [] (ab_S nr h g rr) (K) := by
  refine ab_aload_n de_F_know_55 0 rfl ?_
  refine ab_get (v := .ref 24) fl_F_34 rfl rfl de_F_know_56 ?_
  refine ab_iload_n de_F_know_59 1 rfl ?_
  refine ab_iload_n de_F_know_60 1 rfl ?_
  refine ab_if_ne (tgt := 71) de_F_know_61 rfl (fun c_61_1 => ?_) (fun c_61_1 => ?_)
  · have b0_ : ¬ b = 0 := fun z_ => c_61_1 (by rw [z_]; rfl)
    refine ab_iload_n de_F_know_71 2 rfl ?_
    refine ab_iast (x := 24) rfl (ab_in (by omega) (by decide)) de_F_know_72 ?_
    rw [(ab_tn (n := b) (by omega))]
    change ab_G _ _ _ _ _ _ _ _ _ (ab_S nr (ab_u2 h 24 b (nI (sp_eb T Z b (gN Z)))) g rr) _
    refine ab_iinc (v := nI (b + 1)) (L' := [(1, .int (nI (b + 1))), (0, .ref 14), (2, .int (nI (sp_eb T Z b (gN Z))))]) de_F_know_73 1 rfl (by rw [show Int32.ofInt 1 = nI 1 from rfl, ab_add]) (by decide) rfl ?_
    refine ab_goto (tgt := 2) de_F_know_76 rfl ?_
    refine ab_sub (L' := [(0, .ref 14), (1, .int (nI (b + 1)))]) [1, 0] rfl ?_
    have e_ : sp_ends T Z b = sp_eb T Z b (gN Z) := by unfold sp_ends; rw [if_neg b0_]
    rw [e_] at kx
    exact kx
  · have b0_ : b = 0 := (ab_inj (b := 0) (by omega) (by decide)).mp c_61_1
    refine ab_iload_n de_F_know_64 2 rfl ?_
    refine ab_bipush (v := -2) de_F_know_65 rfl ?_
    refine ab_iand de_F_know_67 ?_
    refine ab_top (v' := nI (sp_eb T Z b (gN Z) &&& 254)) (sp_m2 _ (sp_eb_lt T Z b _)) ?_
    refine ab_goto (tgt := 72) de_F_know_68 rfl ?_
    refine ab_iast (x := 24) rfl (ab_in (by omega) (by decide)) de_F_know_72 ?_
    rw [(ab_tn (n := b) (by omega))]
    change ab_G _ _ _ _ _ _ _ _ _ (ab_S nr (ab_u2 h 24 b (nI (sp_eb T Z b (gN Z) &&& 254))) g rr) _
    refine ab_iinc (v := nI (b + 1)) (L' := [(1, .int (nI (b + 1))), (0, .ref 14), (2, .int (nI (sp_eb T Z b (gN Z))))]) de_F_know_73 1 rfl (by rw [show Int32.ofInt 1 = nI 1 from rfl, ab_add]) (by decide) rfl ?_
    refine ab_goto (tgt := 2) de_F_know_76 rfl ?_
    refine ab_sub (L' := [(0, .ref 14), (1, .int (nI (b + 1)))]) [1, 0] rfl ?_
    have e_ : sp_ends T Z b = sp_eb T Z b (gN Z) &&& 254 := by unfold sp_ends; rw [if_pos b0_]
    rw [e_] at kx
    exact kx
set_option maxHeartbeats 1000000 in
set_option maxRecDepth 10000 in
theorem lp_F_know (l : Launch) (d : Nat) (nr : Nat) (h : Nat → Nat → Int32) (g : Nat → Nat → Int64) (rr : Nat → Option Nat) {T : Nat → Nat → Nat} (hT : bo_T T h 17) (hO : sp_ok T) {Z : sp_G} (hZ : gm_ok Z) (hG : gm_C Z h) (hkn : h 14 9 = 0) : ∀ (fu_ b : Nat) (hh : Nat → Nat → Int32), b ≤ 512 → 512 < b + fu_ → (∀ a, a ≠ 24 → hh a = h a) → (∀ e, e < b → hh 24 e = nI (sp_ends T Z e)) → ab_G l none am_F_know (d + 7) 0 0 2 [(0, .ref 14), (1, .int (nI b))] [] (ab_S nr hh g rr) (fun (r_ : Option Value) (M' : ab_Me) => r_ = none ∧ ∃ h', M' = ab_S nr h' g rr ∧ (∀ a, a ≠ 14 → a ≠ 22 → a ≠ 23 → a ≠ 24 → h' a = h a) ∧ (∀ b, b ≠ 3 → b ≠ 9 → h' 14 b = h 14 b) ∧ h' 14 9 = 1 ∧ fk_ok (sp_f T Z) h') := by
  intro fu_
  induction fu_ with
  | zero => intro b hh h1 h2; omega
  | succ fu_ ih =>
    intro b hh hN_ hn_ hf0_ hf1
    refine ab_iload_n de_F_know_2 1 rfl ?_
    refine ab_sipush (v := 512) de_F_know_3 rfl ?_
    refine ab_icmp_ge (tgt := 79) de_F_know_6 rfl (fun c_6_1 => ?_) (fun c_6_1 => ?_)
    · have hb := ab_le_of (n := 512) (by decide) (by omega) rfl c_6_1
      refine ab_aload_n de_F_know_79 0 rfl ?_
      refine ab_get (v := .int (hh 14 9)) fl_F_46 rfl rfl de_F_know_80 ?_
      refine ab_top (v' := (0 : Int32)) ((congrFun (hf0_ 14 (by decide)) 9).trans hkn) ?_
      refine ab_if_ne (tgt := 90) de_F_know_83 rfl (fun c_83_2 => ?_) (fun c_83_2 => ?_)
      · exact absurd rfl c_83_2
      · refine ab_aload_n de_F_know_86 0 rfl ?_
        refine ab_cV (as := []) (st := []) (ct_F_sort l _ nr hh g rr (f := sp_f T Z) (en := sp_ends T Z) (fun e he => hf1 e (by omega)) (fun e _ => sp_ends_lt T Z e) (fun c hc => sp_ends_bit hZ hc) (sp_f0 T Z)) mo_F_sort mi_F_sort ml_F_64 rfl (by decide) rfl rfl rfl (Nat.le_of_ble_eq_true rfl) de_F_know_87 (fun v_ M_ hK_ hl_ hv_ => ?_)
        obtain ⟨rfl, h2, rfl, fr1, fr2, fk⟩ := hK_
        change ab_G _ _ _ _ _ _ _ [(0, .ref 14), (1, .int (nI b))] [] (ab_S nr h2 g rr) _
        refine ab_aload_n de_F_know_90 0 rfl ?_
        refine ab_iconst (v := 1) de_F_know_91 rfl ?_
        refine ab_putI (x := 14) (j := 9) fl_F_46 rfl (Or.inr rfl) rfl rfl rfl de_F_know_92 ?_
        change ab_G _ _ _ _ _ _ _ _ _ (ab_S nr (ab_u2 h2 14 9 (1 : Int32)) g rr) _
        exact ab_ret (v := none) de_F_know_95 rfl ⟨rfl, _, rfl, fun a h1 h3 h4 h5 => by rw [ab_u2_row h1]; exact (fr1 a h1 h3 h4).trans (hf0_ a h5), fun e h1 h3 => by rw [ab_u2_ne (by omega)]; exact (fr2 e h1).trans (congrFun (hf0_ 14 (by decide)) e), ab_u2_at, fk_fr (ab_u2_ne (by decide)) (ab_u2_row (by decide)) (ab_u2_row (by decide)) fk⟩
    · have hb := ab_nle_of (n := 512) (by decide) (by omega) rfl c_6_1
      refine ab_aload_n de_F_know_9 0 rfl ?_
      refine ab_get (v := .int (hh 14 9)) fl_F_46 rfl rfl de_F_know_10 ?_
      refine ab_top (v' := (0 : Int32)) ((congrFun (hf0_ 14 (by decide)) 9).trans hkn) ?_
      refine ab_if_ne (tgt := 79) de_F_know_13 rfl (fun c_13_3 => ?_) (fun c_13_3 => ?_)
      · exact absurd rfl c_13_3
      · refine ab_sipush (v := 255) de_F_know_16 rfl ?_
        refine ab_istore_n (L' := [(2, .int (255 : Int32)), (0, .ref 14), (1, .int (nI b))]) de_F_know_19 (by decide) rfl ?_
        refine ab_iconst (v := 0) de_F_know_20 rfl ?_
        refine ab_istore_n (L' := [(3, .int (0 : Int32)), (2, .int (255 : Int32)), (0, .ref 14), (1, .int (nI b))]) de_F_know_21 (by decide) rfl ?_
        refine ab_sub (L' := [(0, .ref 14), (1, .int (nI b)), (2, .int (nI (sp_eb T Z b 0))), (3, .int (nI 0))]) [2, 3, 1, 0] rfl ?_
        refine lp_F_know_g l _ nr hh g rr (bo_T_fr (hf0_ 17 (by decide)) hT) hO hZ (gm_C_fr (hf0_ 15 (by decide)) (hf0_ 18 (by decide)) (hf0_ 19 (by decide)) (hf0_ 20 (by decide)) (hf0_ 21 (by decide)) hG) hb hZ.1 ?_ (gN Z + 1) 0 (by omega) (by omega)
        refine sg_F_know l _ nr hh g rr hb ?_
        exact ih (b + 1) _ (by omega) (by omega) (fun a ha => by rw [ab_u2_row ha]; exact hf0_ a ha) (fun e he => by
          by_cases q : e = b
          · subst q; exact ab_u2_at
          · rw [ab_u2_ne (by omega)]; exact hf1 e (by omega))
set_option maxHeartbeats 1000000 in
set_option maxRecDepth 10000 in
theorem ct_F_know_n (l : Launch) (d : Nat) (nr : Nat) (h : Nat → Nat → Int32) (g : Nat → Nat → Int64) (rr : Nat → Option Nat) {T : Nat → Nat → Nat} (hT : bo_T T h 17) (hO : sp_ok T) {Z : sp_G} (hZ : gm_ok Z) (hG : gm_C Z h) (hkn : h 14 9 = 0) : ab_C l am_F_know (d + 7) 0 0 [.ref 14] (ab_S nr h g rr) (fun (r_ : Option Value) (M' : ab_Me) => r_ = none ∧ ∃ h', M' = ab_S nr h' g rr ∧ (∀ a, a ≠ 14 → a ≠ 22 → a ≠ 23 → a ≠ 24 → h' a = h a) ∧ (∀ b, b ≠ 3 → b ≠ 9 → h' 14 b = h 14 b) ∧ h' 14 9 = 1 ∧ fk_ok (sp_f T Z) h') := by
  refine ab_C_of (by decide +kernel) rfl (Nat.le_of_ble_eq_true rfl) ?_
  refine ab_iconst (v := 0) de_F_know_0 rfl ?_
  refine ab_istore_n (L' := [(1, .int (0 : Int32)), (0, .ref 14)]) de_F_know_1 (by decide) rfl ?_
  refine ab_sub (L' := [(0, .ref 14), (1, .int (nI 0))]) [1, 0] rfl ?_
  exact lp_F_know l _ nr h g rr hT hO hZ hG hkn 513 0 h (by omega) (by omega) (fun _ _ => rfl) (fun e he => absurd he (Nat.not_lt_zero e))
set_option maxHeartbeats 1000000 in
set_option maxRecDepth 10000 in
theorem ct_F_know_k (l : Launch) (d : Nat) (nr : Nat) (h : Nat → Nat → Int32) (g : Nat → Nat → Int64) (rr : Nat → Option Nat) {T : Nat → Nat → Nat} {Z : sp_G} (hkn : h 14 9 = 1) (fk : fk_ok (sp_f T Z) h) : ab_C l am_F_know d 0 0 [.ref 14] (ab_S nr h g rr) (fun (r_ : Option Value) (M' : ab_Me) => r_ = none ∧ ∃ h', M' = ab_S nr h' g rr ∧ (∀ a, a ≠ 14 → a ≠ 22 → a ≠ 23 → a ≠ 24 → h' a = h a) ∧ (∀ b, b ≠ 3 → b ≠ 9 → h' 14 b = h 14 b) ∧ h' 14 9 = 1 ∧ fk_ok (sp_f T Z) h') := by
  refine ab_C_of (by decide +kernel) rfl (Nat.le_of_ble_eq_true rfl) ?_
  refine ab_iconst (v := 0) de_F_know_0 rfl ?_
  refine ab_istore_n (L' := [(1, .int (0 : Int32)), (0, .ref 14)]) de_F_know_1 (by decide) rfl ?_
  refine ab_iload_n de_F_know_2 0 rfl ?_
  refine ab_sipush (v := 512) de_F_know_3 rfl ?_
  refine ab_icmp_ge (tgt := 79) de_F_know_6 rfl (fun c_6_1 => ?_) (fun c_6_1 => ?_)
  · exact absurd c_6_1 (by decide)
  · refine ab_aload_n de_F_know_9 1 rfl ?_
    refine ab_get (v := .int (h 14 9)) fl_F_46 rfl rfl de_F_know_10 ?_
    refine ab_top (v' := (1 : Int32)) (hkn) ?_
    refine ab_if_ne (tgt := 79) de_F_know_13 rfl (fun c_13_2 => ?_) (fun c_13_2 => ?_)
    · refine ab_aload_n de_F_know_79 1 rfl ?_
      refine ab_get (v := .int (h 14 9)) fl_F_46 rfl rfl de_F_know_80 ?_
      refine ab_top (v' := (1 : Int32)) (hkn) ?_
      refine ab_if_ne (tgt := 90) de_F_know_83 rfl (fun c_83_3 => ?_) (fun c_83_3 => ?_)
      · refine ab_aload_n de_F_know_90 1 rfl ?_
        refine ab_iconst (v := 1) de_F_know_91 rfl ?_
        refine ab_putI (x := 14) (j := 9) fl_F_46 rfl (Or.inr rfl) rfl rfl rfl de_F_know_92 ?_
        change ab_G _ _ _ _ _ _ _ _ _ (ab_S nr (ab_u2 h 14 9 (1 : Int32)) g rr) _
        exact ab_ret (v := none) de_F_know_95 rfl ⟨rfl, _, rfl, fun a h1 _ _ _ => ab_u2_row h1, fun e _ h3 => ab_u2_ne (by omega), ab_u2_at, fk_fr (ab_u2_ne (by decide)) (ab_u2_row (by decide)) (ab_u2_row (by decide)) fk⟩
      · exact absurd c_83_3 (by decide)
    · exact absurd c_13_2 (by decide)
theorem ct_F_know (l : Launch) (d : Nat) (nr : Nat) (h : Nat → Nat → Int32) (g : Nat → Nat → Int64) (rr : Nat → Option Nat) {T : Nat → Nat → Nat} (hT : bo_T T h 17) (hO : sp_ok T) {Z : sp_G} (hZ : gm_ok Z) (hG : gm_C Z h) (hkn : h 14 9 = 0 ∨ (h 14 9 = 1 ∧ fk_ok (sp_f T Z) h)) : ab_C l am_F_know (d + 7) 0 0 [.ref 14] (ab_S nr h g rr) (fun (r_ : Option Value) (M' : ab_Me) => r_ = none ∧ ∃ h', M' = ab_S nr h' g rr ∧ (∀ a, a ≠ 14 → a ≠ 22 → a ≠ 23 → a ≠ 24 → h' a = h a) ∧ (∀ b, b ≠ 3 → b ≠ 9 → h' 14 b = h 14 b) ∧ h' 14 9 = 1 ∧ fk_ok (sp_f T Z) h') := by
  rcases hkn with hk | ⟨hk, fk⟩
  · exact ct_F_know_n l d nr h g rr hT hO hZ hG hk
  · exact ct_F_know_k l _ nr h g rr hk fk
