/-! the class Fitting: what is kept of which codes fit -/
theorem ab_div {a b : Nat} (ha : a < 2 ^ 31) (hb : b < 2 ^ 31) : nI a / nI b = nI (a / b) := by
  apply Int32.toInt_inj.mp
  have h1 : a / b < 2 ^ 31 := Nat.lt_of_le_of_lt (Nat.div_le_self a b) ha
  rw [Int32.toInt_div, nI_toInt ha, nI_toInt hb, nI_toInt h1, ← Int.ofNat_tdiv]
  generalize a / b = q at h1 ⊢
  simp only [Int.bmod]
  rw [show ((2 ^ 32 : Nat) : Int) = 4294967296 from rfl]
  split <;> omega
theorem ab_rem {a b : Nat} (ha : a < 2 ^ 31) (hb : b < 2 ^ 31) : nI a - nI a / nI b * nI b = nI (a % b) := by
  rw [ab_div ha hb, ab_mul]
  have h := Nat.div_add_mod a b
  have h2 : a / b * b ≤ a := Nat.div_mul_le_self a b
  rw [ab_sub_k h2]
  congr 1
  rw [Nat.mul_comm] at h
  omega
theorem bo_T_fr {T : Nat → Nat → Nat} {h h' : Nat → Nat → Int32} {pl : Nat} (e : h' pl = h pl) (hT : bo_T T h pl) : bo_T T h' pl := fun k p hk hp => by rw [e]; exact hT k p hk hp
theorem gm_C_fr {Z : sp_G} {h h' : Nat → Nat → Int32} (e1 : h' 15 = h 15) (e2 : h' 18 = h 18) (e3 : h' 19 = h 19) (e4 : h' 20 = h 20) (e5 : h' 21 = h 21) (hG : gm_C Z h) : gm_C Z h' := by
  unfold gm_C
  rw [e1, e2, e3, e4, e5]
  exact hG
theorem sp_m2 : ∀ x, x < 256 → nI x &&& (-2 : Int32) = nI (x &&& 254) := by decide +kernel
/-- what know() has found -/
def fk_ok (f : Nat → Bool) (h : Nat → Nat → Int32) : Prop := h 14 3 = nI (sp_to f) ∧ (∀ p, p < 23 → h 23 p = nI (sp_bw f (p + 1))) ∧ fo_in f 22 h
theorem fk_fr {f : Nat → Bool} {h h' : Nat → Nat → Int32} (e1 : h' 14 3 = h 14 3) (e2 : h' 23 = h 23) (e3 : h' 22 = h 22) (hk : fk_ok f h) : fk_ok f h' := by
  refine ⟨e1.trans hk.1, fun p hp => by rw [e2]; exact hk.2.1 p hp, fun i hi => by rw [e3]; exact hk.2.2 i hi⟩
theorem ab_no0 (n : Nat) (h : 1 ≤ n) (h2 : n < 2 ^ 31) : ¬ nI n = 0 := fun e => by
  have := (ab_inj (b := 0) (by omega) (by decide)).mp e
  omega
set_option maxHeartbeats 1000000 in
set_option maxRecDepth 10000 in
theorem ct_F_fitsAll (l : Launch) (d : Nat) (nr : Nat) (h : Nat → Nat → Int32) (g : Nat → Nat → Int64) (rr : Nat → Option Nat) {f : Nat → Bool} {en : Nat → Nat} (hE : ∀ b, b < 512 → h 24 b = nI (en b)) (hen : ∀ b, b < 512 → en b < 256) (hf : ∀ c, c < 4096 → (en (c % 512)).testBit (c / 512) = f c) {c : Nat} (hc : c < 4096) : ab_C l am_F_fitsAll d 0 0 [.ref 14, .int (nI c)] (ab_S nr h g rr) (fun (r_ : Option Value) (M' : ab_Me) => r_ = some (.int (ab_bz (f c))) ∧ M' = (ab_S nr h g rr)) := by
  refine ab_C_of (by decide +kernel) rfl (Nat.le_of_ble_eq_true rfl) ?_
  refine ab_aload_n de_F_fitsAll_0 0 rfl ?_
  refine ab_get (v := .ref 24) fl_F_34 rfl rfl de_F_fitsAll_1 ?_
  refine ab_iload_n de_F_fitsAll_4 1 rfl ?_
  refine ab_sipush (v := 512) de_F_fitsAll_5 rfl ?_
  refine ab_irem de_F_fitsAll_8 (by decide) ?_
  refine ab_top (v' := nI (c % 512)) (ab_rem (b := 512) (by omega) (by decide)) ?_
  refine ab_iald (v := h 24 (c % 512)) rfl (ab_in (by omega) (by decide)) (ab_hv (ab_tn (n := (c % 512)) (by omega))) de_F_fitsAll_9 ?_
  refine ab_top (v' := nI (en (c % 512))) (hE _ (by omega)) ?_
  refine ab_iload_n de_F_fitsAll_10 1 rfl ?_
  refine ab_sipush (v := 512) de_F_fitsAll_11 rfl ?_
  refine ab_idiv de_F_fitsAll_14 (by decide) ?_
  refine ab_top (v' := nI (c / 512)) (ab_div (b := 512) (by omega) (by decide)) ?_
  refine ab_ishr de_F_fitsAll_15 ?_
  refine ab_iconst (v := 1) de_F_fitsAll_16 rfl ?_
  refine ab_iand de_F_fitsAll_17 ?_
  refine ab_top (v' := nI ((en (c % 512)).testBit (c / 512)).toNat) (sp_bitne _ _ (by have := hen (c % 512) (by omega); omega) (by omega)) ?_
  refine ab_if_eq (tgt := 25) de_F_fitsAll_18 rfl (fun c_18_1 => ?_) (fun c_18_1 => ?_)
  · refine ab_iconst (v := 0) de_F_fitsAll_25 rfl ?_
    exact ab_ret (v := some (.int (0 : Int32))) de_F_fitsAll_26 ⟨_, rfl, rfl⟩ ⟨congrArg (fun z => some (Value.int z)) (ab_bz_f (by rw [← hf c hc]; exact (sp_b0 _).mp c_18_1)), rfl⟩
  · refine ab_iconst (v := 1) de_F_fitsAll_21 rfl ?_
    refine ab_goto (tgt := 26) de_F_fitsAll_22 rfl ?_
    exact ab_ret (v := some (.int (1 : Int32))) de_F_fitsAll_26 ⟨_, rfl, rfl⟩ ⟨congrArg (fun z => some (Value.int z)) (ab_bz_t (by rw [← hf c hc]; exact Bool.of_not_eq_false (fun z => c_18_1 ((sp_b0 _).mpr z)))), rfl⟩
set_option maxHeartbeats 1000000 in
set_option maxRecDepth 10000 in
theorem ct_F_rivalCount (l : Launch) (d : Nat) (nr : Nat) (h : Nat → Nat → Int32) (g : Nat → Nat → Int64) (rr : Nat → Option Nat) {f : Nat → Bool} (hK : fk_ok f h) {x : Nat} (hx : x < 10) : ab_C l am_F_rivalCount (d + 2) 0 0 [.ref 14, .int (nI x)] (ab_S nr h g rr) (fun (r_ : Option Value) (M' : ab_Me) => r_ = some (.int (nI (sp_rv f x))) ∧ M' = (ab_S nr h g rr)) := by
  refine ab_C_of (by decide +kernel) rfl (Nat.le_of_ble_eq_true rfl) ?_
  refine ab_aload_n de_F_rivalCount_0 0 rfl ?_
  refine ab_get (v := .int (h 14 3)) fl_F_27 rfl rfl de_F_rivalCount_1 ?_
  refine ab_top (v' := nI (sp_to f)) (hK.1) ?_
  refine ab_if_ne (tgt := 9) de_F_rivalCount_4 rfl (fun c_4_1 => ?_) (fun c_4_1 => ?_)
  · have h0 : ¬ sp_to f = 0 := fun z => c_4_1 (by rw [z]; rfl)
    refine ab_aload_n de_F_rivalCount_9 0 rfl ?_
    refine ab_get (v := .ref 23) fl_F_31 rfl rfl de_F_rivalCount_10 ?_
    refine ab_aload_n de_F_rivalCount_13 0 rfl ?_
    refine ab_get (v := .ref 22) fl_F_23 rfl rfl de_F_rivalCount_14 ?_
    refine ab_iconst (v := 0) de_F_rivalCount_17 rfl ?_
    refine ab_iald (v := h 22 0) rfl (show vp_in (nI 0) _ from ab_in (by decide) (by decide)) (ab_hv (show (nI 0).toNatClampNeg = 0 from ab_tn (by decide))) de_F_rivalCount_18 ?_
    refine ab_top (v' := nI (sp_fo f 0)) (hK.2.2 0 (by omega)) ?_
    refine ab_cS (as := [.int (nI (sp_fo f 0))]) (st := [.ref 23]) (ct_R_priceOf l _ (ab_S nr h g rr) (c := sp_fo f 0) (sp_fo_ok (by omega)).1) mo_R_priceOf ms_R_priceOf ml_F_77 rfl rfl (Nat.le_of_ble_eq_true rfl) de_F_rivalCount_19 (fun v_ M_ hK_ hl_ hv_ => ?_)
    obtain ⟨rfl, hm_⟩ := hK_
    have hm_ := hm_.symm
    subst hm_
    change ab_G _ _ _ _ _ _ _ [(0, .ref 14), (1, .int (nI x))] [.int (nI (sp_pr (sp_fo f 0))), .ref 23] (ab_S nr h g rr) _
    refine ab_iload_n de_F_rivalCount_22 1 rfl ?_
    refine ab_iadd de_F_rivalCount_23 ?_
    refine ab_top (v' := nI (sp_pr (sp_fo f 0) + x)) (ab_add _ _) ?_
    refine ab_bipush (v := 22) de_F_rivalCount_24 rfl ?_
    refine ab_min (ab_w3 177 rfl rfl) (Nat.le_of_ble_eq_true rfl) de_F_rivalCount_26 ?_
    refine ab_top (v' := nI (min (sp_pr (sp_fo f 0) + x) 22)) (sp_mnI (b := 22) (by have := sp_pr22 (sp_fo f 0); omega) (by decide)) ?_
    refine ab_iald (v := h 23 (min (sp_pr (sp_fo f 0) + x) 22)) rfl (ab_in (by omega) (by decide)) (ab_hv (ab_tn (n := (min (sp_pr (sp_fo f 0) + x) 22)) (by omega))) de_F_rivalCount_29 ?_
    refine ab_top (v' := nI (sp_bw f (min (sp_pr (sp_fo f 0) + x) 22 + 1))) (hK.2.1 _ (by omega)) ?_
    exact ab_ret (v := some (.int (nI (sp_bw f (min (sp_pr (sp_fo f 0) + x) 22 + 1))))) de_F_rivalCount_30 ⟨_, rfl⟩ ⟨congrArg (fun z => some (Value.int z)) (by unfold sp_rv; rw [if_neg h0]), rfl⟩
  · refine ab_iconst (v := 0) de_F_rivalCount_7 rfl ?_
    exact ab_ret (v := some (.int (0 : Int32))) de_F_rivalCount_8 ⟨_, rfl⟩ ⟨congrArg (fun z => some (Value.int z)) (by unfold sp_rv; rw [if_pos ((ab_inj (b := 0) (by have := sp_to_lt (f := f); omega) (by decide)).mp c_4_1)]; rfl), rfl⟩
set_option maxHeartbeats 1000000 in
set_option maxRecDepth 10000 in
theorem lp_F_sort3 (l : Launch) (d : Nat) (nr : Nat) (h : Nat → Nat → Int32) (g : Nat → Nat → Int64) (rr : Nat → Option Nat) {f : Nat → Bool} {en : Nat → Nat} (hE : ∀ b, b < 512 → h 24 b = nI (en b)) (hen : ∀ b, b < 512 → en b < 256) (hf : ∀ c, c < 4096 → (en (c % 512)).testBit (c / 512) = f c) (hf0 : f 0 = false) : ∀ (fu_ c : Nat) (hh : Nat → Nat → Int32), c ≤ 4096 → 4096 < c + fu_ → (∀ a, a ≠ 14 → a ≠ 22 → a ≠ 23 → hh a = h a) → (∀ b, b ≠ 3 → hh 14 b = h 14 b) → hh 14 3 = nI (sp_to f) → (∀ p, p < 23 → hh 23 p = nI (sp_bw f p + sp_ct f p c)) → (∀ e, e < c → f e = true → hh 22 (sp_rk f e) = nI e) → ab_G l none am_F_sort (d + 2) 0 0 92 [(0, .ref 14), (1, .int (nI c))] [] (ab_S nr hh g rr) (fun (r_ : Option Value) (M' : ab_Me) => r_ = none ∧ ∃ h', M' = ab_S nr h' g rr ∧ (∀ a, a ≠ 14 → a ≠ 22 → a ≠ 23 → h' a = h a) ∧ (∀ b, b ≠ 3 → h' 14 b = h 14 b) ∧ fk_ok f h') := by
  intro fu_
  induction fu_ with
  | zero => intro c hh h1 h2; omega
  | succ fu_ ih =>
    intro c hh hN_ hn_ hf0_ hf1 hf2 hf3 hf4
    refine ab_iload_n de_F_sort_92 1 rfl ?_
    refine ab_sipush (v := 4096) de_F_sort_93 rfl ?_
    refine ab_icmp_ge (tgt := 140) de_F_sort_96 rfl (fun c_96_1 => ?_) (fun c_96_1 => ?_)
    · have hc := ab_le_of (n := 4096) (by decide) (by omega) rfl c_96_1
      exact ab_ret (v := none) de_F_sort_140 rfl ⟨rfl, hh, rfl, hf0_, hf1, hf2, fun p hp => by rw [hf3 p hp, show c = 4096 by omega]; rfl, fo_of (fun e he h2 => hf4 e (by omega) h2)⟩
    · have hc := ab_nle_of (n := 4096) (by decide) (by omega) rfl c_96_1
      refine ab_aload_n de_F_sort_99 0 rfl ?_
      refine ab_iload_n de_F_sort_100 1 rfl ?_
      refine ab_cV (as := [.int (nI c)]) (st := []) (ct_F_fitsAll l _ nr hh g rr (fun b hb => (congrFun (hf0_ 24 (by decide) (by decide) (by decide)) b).trans (hE b hb)) hen hf (c := c) (by omega)) mo_F_fitsAll mi_F_fitsAll ml_F_73 rfl (by decide) rfl rfl rfl (Nat.le_of_ble_eq_true rfl) de_F_sort_101 (fun v_ M_ hK_ hl_ hv_ => ?_)
      obtain ⟨rfl, hm_⟩ := hK_
      have hm_ := hm_.symm
      subst hm_
      change ab_G _ _ _ _ _ _ _ [(0, .ref 14), (1, .int (nI c))] [.int (ab_bz (f c))] (ab_S nr hh g rr) _
      refine ab_if_eq (tgt := 134) de_F_sort_104 rfl (fun c_104_2 => ?_) (fun c_104_2 => ?_)
      · refine ab_iinc (v := nI (c + 1)) (L' := [(1, .int (nI (c + 1))), (0, .ref 14)]) de_F_sort_134 1 rfl (by rw [show Int32.ofInt 1 = nI 1 from rfl, ab_add]) (by decide) rfl ?_
        refine ab_goto (tgt := 92) de_F_sort_137 rfl ?_
        refine ab_sub (L' := [(0, .ref 14), (1, .int (nI (c + 1)))]) [1, 0] rfl ?_
        exact ih (c + 1) hh (by omega) (by omega) (hf0_) (hf1) (hf2) (fun p hp => by rw [sp_ct_n (fun z => by rw [((ab_bz0 _).mp c_104_2)] at z; cases z.1)]; exact hf3 p hp) (fun e he h2 => hf4 e (Nat.lt_of_le_of_ne (by omega) (fun q => by rw [q, ((ab_bz0 _).mp c_104_2)] at h2; cases h2)) h2)
      · have fc_ := (ab_bz1 _).mp c_104_2
        have pc_ := sp_pr22 c
        have rk_ := sp_rk_lt fc_ (by omega)
        have rl_ := sp_bw_le (f := f) (p := sp_pr c + 1) (by omega)
        have re_ : sp_bw f (sp_pr c) + sp_ct f (sp_pr c) c = sp_rk f c := rfl
        refine ab_iload_n de_F_sort_107 1 rfl ?_
        refine ab_cS (as := [.int (nI c)]) (st := []) (ct_R_priceOf l _ (ab_S nr hh g rr) (c := c) (by omega)) mo_R_priceOf ms_R_priceOf ml_F_77 rfl rfl (Nat.le_of_ble_eq_true rfl) de_F_sort_108 (fun v_ M_ hK_ hl_ hv_ => ?_)
        obtain ⟨rfl, hm_⟩ := hK_
        have hm_ := hm_.symm
        subst hm_
        change ab_G _ _ _ _ _ _ _ [(0, .ref 14), (1, .int (nI c))] [.int (nI (sp_pr c))] (ab_S nr hh g rr) _
        refine ab_istore_n (L' := [(2, .int (nI (sp_pr c))), (0, .ref 14), (1, .int (nI c))]) de_F_sort_111 (by decide) rfl ?_
        refine ab_aload_n de_F_sort_112 1 rfl ?_
        refine ab_get (v := .ref 22) fl_F_23 rfl rfl de_F_sort_113 ?_
        refine ab_aload_n de_F_sort_116 1 rfl ?_
        refine ab_get (v := .ref 23) fl_F_31 rfl rfl de_F_sort_117 ?_
        refine ab_iload_n de_F_sort_120 0 rfl ?_
        refine ab_iald (v := hh 23 (sp_pr c)) rfl (ab_in (by omega) (by decide)) (ab_hv (ab_tn (n := (sp_pr c)) (by omega))) de_F_sort_121 ?_
        refine ab_top (v' := nI (sp_rk f c)) (hf3 _ (by omega)) ?_
        refine ab_iload_n de_F_sort_122 2 rfl ?_
        refine ab_iast (x := 22) rfl (ab_in (by omega) (by decide)) de_F_sort_123 ?_
        rw [ab_tn (n := sp_rk f c) (by omega)]
        change ab_G _ _ _ _ _ _ _ _ _ (ab_S nr (ab_u2 hh 22 (sp_rk f c) (nI c)) g rr) _
        refine ab_aload_n de_F_sort_124 1 rfl ?_
        refine ab_get (v := .ref 23) fl_F_31 rfl rfl de_F_sort_125 ?_
        refine ab_iload_n de_F_sort_128 0 rfl ?_
        refine ab_dup2 de_F_sort_129 rfl rfl ?_
        refine ab_iald (v := (ab_u2 hh 22 (sp_rk f c) (nI c)) 23 (sp_pr c)) rfl (ab_in (by omega) (by decide)) (ab_hv (ab_tn (n := (sp_pr c)) (by omega))) de_F_sort_130 ?_
        refine ab_top (v' := nI (sp_rk f c)) ((ab_u2_k (by decide)).trans (hf3 _ (by omega))) ?_
        refine ab_iconst (v := 1) de_F_sort_131 rfl ?_
        refine ab_iadd de_F_sort_132 ?_
        refine ab_top (v' := nI (sp_rk f c + 1)) (ab_add _ 1) ?_
        refine ab_iast (x := 23) rfl (ab_in (by omega) (by decide)) de_F_sort_133 ?_
        rw [ab_tn (n := sp_pr c) (by omega)]
        change ab_G _ _ _ _ _ _ _ _ _ (ab_S nr (ab_u2 (ab_u2 hh 22 (sp_rk f c) (nI c)) 23 (sp_pr c) (nI (sp_rk f c + 1))) g rr) _
        refine ab_iinc (v := nI (c + 1)) (L' := [(1, .int (nI (c + 1))), (2, .int (nI (sp_pr c))), (0, .ref 14)]) de_F_sort_134 2 rfl (by rw [show Int32.ofInt 1 = nI 1 from rfl, ab_add]) (by decide) rfl ?_
        refine ab_goto (tgt := 92) de_F_sort_137 rfl ?_
        refine ab_sub (L' := [(0, .ref 14), (1, .int (nI (c + 1)))]) [2, 0] rfl ?_
        exact ih (c + 1) (ab_u2 (ab_u2 hh 22 (sp_rk f c) (nI c)) 23 (sp_pr c) (nI (sp_rk f c + 1))) (by omega) (by omega) (fun a h1 h2 h3 => by rw [ab_u2_row h3, ab_u2_row h2]; exact hf0_ a h1 h2 h3) (fun b hb => by rw [ab_u2_k (by decide), ab_u2_k (by decide)]; exact hf1 b hb) (by rw [ab_u2_k (by decide), ab_u2_k (by decide)]; exact hf2) (fun p hp => by
          by_cases q : p = sp_pr c
          · subst q; rw [ab_u2_at, sp_ct_s fc_ rfl]; rfl
          · rw [ab_u2_ne (by omega), ab_u2_k (by decide), sp_ct_n (fun z => q z.2.symm)]; exact hf3 p hp) (fun e he h2 => by
          rw [ab_u2_k (by decide)]
          by_cases q : e = c
          · subst q; exact ab_u2_at
          · rw [ab_u2_ne (fun z => q (sp_rk_inj h2 fc_ (by omega) (by omega) z.2))]; exact hf4 e (by omega) h2)
set_option maxHeartbeats 1000000 in
set_option maxRecDepth 10000 in
theorem lp_F_sort2 (l : Launch) (d : Nat) (nr : Nat) (h : Nat → Nat → Int32) (g : Nat → Nat → Int64) (rr : Nat → Option Nat) {f : Nat → Bool} {en : Nat → Nat} (hE : ∀ b, b < 512 → h 24 b = nI (en b)) (hen : ∀ b, b < 512 → en b < 256) (hf : ∀ c, c < 4096 → (en (c % 512)).testBit (c / 512) = f c) (hf0 : f 0 = false) : ∀ (fu_ p : Nat) (hh : Nat → Nat → Int32), p ≤ 23 → 23 < p + fu_ → (∀ a, a ≠ 14 → a ≠ 22 → a ≠ 23 → hh a = h a) → (∀ b, b ≠ 3 → hh 14 b = h 14 b) → hh 14 3 = nI (sp_bw f p) → (∀ b, b < 23 → hh 23 b = nI (if b < p then sp_bw f b else sp_ct f b 4096)) → ab_G l none am_F_sort (d + 2) 0 0 51 [(0, .ref 14), (1, .int (nI p))] [] (ab_S nr hh g rr) (fun (r_ : Option Value) (M' : ab_Me) => r_ = none ∧ ∃ h', M' = ab_S nr h' g rr ∧ (∀ a, a ≠ 14 → a ≠ 22 → a ≠ 23 → h' a = h a) ∧ (∀ b, b ≠ 3 → h' 14 b = h 14 b) ∧ fk_ok f h') := by
  intro fu_
  induction fu_ with
  | zero => intro p hh h1 h2; omega
  | succ fu_ ih =>
    intro p hh hN_ hn_ hf0_ hf1 hf2 hf3
    refine ab_iload_n de_F_sort_51 1 rfl ?_
    refine ab_bipush (v := 22) de_F_sort_52 rfl ?_
    refine ab_icmp_gt (tgt := 90) de_F_sort_54 rfl (fun c_54_1 => ?_) (fun c_54_1 => ?_)
    · have hp := ab_lt_of (n := 22) (by decide) (by omega) rfl c_54_1
      refine ab_iconst (v := 1) de_F_sort_90 rfl ?_
      refine ab_istore_n (L' := [(1, .int (1 : Int32)), (0, .ref 14)]) de_F_sort_91 (by decide) rfl ?_
      refine ab_sub (L' := [(0, .ref 14), (1, .int (nI 1))]) [1, 0] rfl ?_
      exact lp_F_sort3 l _ nr h g rr hE hen hf hf0 4096 1 hh (by omega) (by omega) hf0_ hf1 (by rw [hf2, show p = 23 by omega]; rfl) (fun b hb => by rw [hf3 b hb, if_pos (by omega), sp_ct_n (fun z => by rw [hf0] at z; cases z.1)]; rfl) (fun e he h2 => by rw [show e = 0 by omega, hf0] at h2; cases h2)
    · have hp := ab_nlt_of (n := 22) (by decide) (by omega) rfl c_54_1
      refine ab_aload_n de_F_sort_57 0 rfl ?_
      refine ab_get (v := .ref 23) fl_F_31 rfl rfl de_F_sort_58 ?_
      refine ab_iload_n de_F_sort_61 1 rfl ?_
      refine ab_iald (v := hh 23 p) rfl (ab_in (by omega) (by decide)) (ab_hv (ab_tn (n := p) (by omega))) de_F_sort_62 ?_
      refine ab_top (v' := nI (sp_ct f p 4096)) ((hf3 p (by omega)).trans (by rw [if_neg (Nat.lt_irrefl _)])) ?_
      refine ab_istore_n (L' := [(2, .int (nI (sp_ct f p 4096))), (0, .ref 14), (1, .int (nI p))]) de_F_sort_63 (by decide) rfl ?_
      refine ab_aload_n de_F_sort_64 1 rfl ?_
      refine ab_get (v := .ref 23) fl_F_31 rfl rfl de_F_sort_65 ?_
      refine ab_iload_n de_F_sort_68 2 rfl ?_
      refine ab_aload_n de_F_sort_69 1 rfl ?_
      refine ab_get (v := .int (hh 14 3)) fl_F_27 rfl rfl de_F_sort_70 ?_
      refine ab_top (v' := nI (sp_bw f p)) (hf2) ?_
      refine ab_iast (x := 23) rfl (ab_in (by omega) (by decide)) de_F_sort_73 ?_
      rw [(ab_tn (n := p) (by omega))]
      change ab_G _ _ _ _ _ _ _ _ _ (ab_S nr (ab_u2 hh 23 p (nI (sp_bw f p))) g rr) _
      refine ab_aload_n de_F_sort_74 1 rfl ?_
      refine ab_dup de_F_sort_75 rfl ?_
      refine ab_get (v := .int ((ab_u2 hh 23 p (nI (sp_bw f p))) 14 3)) fl_F_27 rfl rfl de_F_sort_76 ?_
      refine ab_top (v' := nI (sp_bw f p)) ((ab_u2_k (by decide)).trans hf2) ?_
      refine ab_iload_n de_F_sort_79 0 rfl ?_
      refine ab_iadd de_F_sort_80 ?_
      refine ab_top (v' := nI (sp_bw f (p + 1))) ((ab_add _ _).trans (by rw [sp_bw_s])) ?_
      refine ab_putI (x := 14) (j := 3) fl_F_27 rfl (Or.inl rfl) rfl rfl rfl de_F_sort_81 ?_
      change ab_G _ _ _ _ _ _ _ _ _ (ab_S nr (ab_u2 (ab_u2 hh 23 p (nI (sp_bw f p))) 14 3 (nI (sp_bw f (p + 1)))) g rr) _
      refine ab_iinc (v := nI (p + 1)) (L' := [(1, .int (nI (p + 1))), (2, .int (nI (sp_ct f p 4096))), (0, .ref 14)]) de_F_sort_84 2 rfl (by rw [show Int32.ofInt 1 = nI 1 from rfl, ab_add]) (by decide) rfl ?_
      refine ab_goto (tgt := 51) de_F_sort_87 rfl ?_
      refine ab_sub (L' := [(0, .ref 14), (1, .int (nI (p + 1)))]) [2, 0] rfl ?_
      exact ih (p + 1) (ab_u2 (ab_u2 hh 23 p (nI (sp_bw f p))) 14 3 (nI (sp_bw f (p + 1)))) (by omega) (by omega) (fun a h1 h2 h3 => by rw [ab_u2_row h1, ab_u2_row h3]; exact hf0_ a h1 h2 h3) (fun b hb => by rw [ab_u2_ne (by omega), ab_u2_k (by decide)]; exact hf1 b hb) (ab_u2_at) (fun b hb => by
        rw [ab_u2_k (by decide)]
        by_cases q : b = p
        · subst q; rw [ab_u2_at, if_pos (by omega)]
        · rw [ab_u2_ne (by omega), hf3 b hb]
          by_cases z : b < p
          · rw [if_pos z, if_pos (by omega)]
          · rw [if_neg z, if_neg (by omega)])
set_option maxHeartbeats 1000000 in
set_option maxRecDepth 10000 in
theorem lp_F_sort1 (l : Launch) (d : Nat) (nr : Nat) (h : Nat → Nat → Int32) (g : Nat → Nat → Int64) (rr : Nat → Option Nat) {f : Nat → Bool} {en : Nat → Nat} (hE : ∀ b, b < 512 → h 24 b = nI (en b)) (hen : ∀ b, b < 512 → en b < 256) (hf : ∀ c, c < 4096 → (en (c % 512)).testBit (c / 512) = f c) (hf0 : f 0 = false) : ∀ (fu_ c : Nat) (hh : Nat → Nat → Int32), c ≤ 4096 → 4096 < c + fu_ → (∀ a, a ≠ 23 → hh a = h a) → (∀ p, p < 23 → hh 23 p = nI (sp_ct f p c)) → ab_G l none am_F_sort (d + 2) 0 0 10 [(0, .ref 14), (1, .int (nI c))] [] (ab_S nr hh g rr) (fun (r_ : Option Value) (M' : ab_Me) => r_ = none ∧ ∃ h', M' = ab_S nr h' g rr ∧ (∀ a, a ≠ 14 → a ≠ 22 → a ≠ 23 → h' a = h a) ∧ (∀ b, b ≠ 3 → h' 14 b = h 14 b) ∧ fk_ok f h') := by
  intro fu_
  induction fu_ with
  | zero => intro c hh h1 h2; omega
  | succ fu_ ih =>
    intro c hh hN_ hn_ hf0_ hf1
    refine ab_iload_n de_F_sort_10 1 rfl ?_
    refine ab_sipush (v := 4096) de_F_sort_11 rfl ?_
    refine ab_icmp_ge (tgt := 44) de_F_sort_14 rfl (fun c_14_1 => ?_) (fun c_14_1 => ?_)
    · have hc := ab_le_of (n := 4096) (by decide) (by omega) rfl c_14_1
      refine ab_aload_n de_F_sort_44 0 rfl ?_
      refine ab_iconst (v := 0) de_F_sort_45 rfl ?_
      refine ab_putI (x := 14) (j := 3) fl_F_27 rfl (Or.inl rfl) rfl rfl rfl de_F_sort_46 ?_
      change ab_G _ _ _ _ _ _ _ _ _ (ab_S nr (ab_u2 hh 14 3 (0 : Int32)) g rr) _
      refine ab_iconst (v := 0) de_F_sort_49 rfl ?_
      refine ab_istore_n (L' := [(1, .int (0 : Int32)), (0, .ref 14)]) de_F_sort_50 (by decide) rfl ?_
      refine ab_sub (L' := [(0, .ref 14), (1, .int (nI 0))]) [1, 0] rfl ?_
      exact lp_F_sort2 l _ nr h g rr hE hen hf hf0 24 0 _ (by omega) (by omega) (fun a h1 h2 h3 => by rw [ab_u2_row h1]; exact hf0_ a h3) (fun b hb => by rw [ab_u2_ne (by omega)]; exact congrFun (hf0_ 14 (by decide)) b) ab_u2_at (fun b hb => by rw [ab_u2_k (by decide), hf1 b hb, if_neg (by omega), show c = 4096 by omega])
    · have hc := ab_nle_of (n := 4096) (by decide) (by omega) rfl c_14_1
      refine ab_aload_n de_F_sort_17 0 rfl ?_
      refine ab_iload_n de_F_sort_18 1 rfl ?_
      refine ab_cV (as := [.int (nI c)]) (st := []) (ct_F_fitsAll l _ nr hh g rr (fun b hb => (congrFun (hf0_ 24 (by decide)) b).trans (hE b hb)) hen hf (c := c) (by omega)) mo_F_fitsAll mi_F_fitsAll ml_F_73 rfl (by decide) rfl rfl rfl (Nat.le_of_ble_eq_true rfl) de_F_sort_19 (fun v_ M_ hK_ hl_ hv_ => ?_)
      obtain ⟨rfl, hm_⟩ := hK_
      have hm_ := hm_.symm
      subst hm_
      change ab_G _ _ _ _ _ _ _ [(0, .ref 14), (1, .int (nI c))] [.int (ab_bz (f c))] (ab_S nr hh g rr) _
      refine ab_if_eq (tgt := 38) de_F_sort_22 rfl (fun c_22_2 => ?_) (fun c_22_2 => ?_)
      · refine ab_iinc (v := nI (c + 1)) (L' := [(1, .int (nI (c + 1))), (0, .ref 14)]) de_F_sort_38 1 rfl (by rw [show Int32.ofInt 1 = nI 1 from rfl, ab_add]) (by decide) rfl ?_
        refine ab_goto (tgt := 10) de_F_sort_41 rfl ?_
        refine ab_sub (L' := [(0, .ref 14), (1, .int (nI (c + 1)))]) [1, 0] rfl ?_
        exact ih (c + 1) hh (by omega) (by omega) (hf0_) (fun p hp => by rw [sp_ct_n (fun z => by rw [((ab_bz0 _).mp c_22_2)] at z; cases z.1)]; exact hf1 p hp)
      · have fc_ := (ab_bz1 _).mp c_22_2
        have pc_ := sp_pr22 c
        refine ab_aload_n de_F_sort_25 0 rfl ?_
        refine ab_get (v := .ref 23) fl_F_31 rfl rfl de_F_sort_26 ?_
        refine ab_iload_n de_F_sort_29 1 rfl ?_
        refine ab_cS (as := [.int (nI c)]) (st := [.ref 23]) (ct_R_priceOf l _ (ab_S nr hh g rr) (c := c) (by omega)) mo_R_priceOf ms_R_priceOf ml_F_77 rfl rfl (Nat.le_of_ble_eq_true rfl) de_F_sort_30 (fun v_ M_ hK_ hl_ hv_ => ?_)
        obtain ⟨rfl, hm_⟩ := hK_
        have hm_ := hm_.symm
        subst hm_
        change ab_G _ _ _ _ _ _ _ [(0, .ref 14), (1, .int (nI c))] [.int (nI (sp_pr c)), .ref 23] (ab_S nr hh g rr) _
        refine ab_dup2 de_F_sort_33 rfl rfl ?_
        refine ab_iald (v := hh 23 (sp_pr c)) rfl (ab_in (by omega) (by decide)) (ab_hv (ab_tn (n := (sp_pr c)) (by omega))) de_F_sort_34 ?_
        refine ab_top (v' := nI (sp_ct f (sp_pr c) c)) (hf1 _ (by omega)) ?_
        refine ab_iconst (v := 1) de_F_sort_35 rfl ?_
        refine ab_iadd de_F_sort_36 ?_
        refine ab_top (v' := nI (sp_ct f (sp_pr c) c + 1)) (ab_add _ 1) ?_
        refine ab_iast (x := 23) rfl (ab_in (by omega) (by decide)) de_F_sort_37 ?_
        rw [ab_tn (n := sp_pr c) (by omega)]
        change ab_G _ _ _ _ _ _ _ _ _ (ab_S nr (ab_u2 hh 23 (sp_pr c) (nI (sp_ct f (sp_pr c) c + 1))) g rr) _
        refine ab_iinc (v := nI (c + 1)) (L' := [(1, .int (nI (c + 1))), (0, .ref 14)]) de_F_sort_38 1 rfl (by rw [show Int32.ofInt 1 = nI 1 from rfl, ab_add]) (by decide) rfl ?_
        refine ab_goto (tgt := 10) de_F_sort_41 rfl ?_
        refine ab_sub (L' := [(0, .ref 14), (1, .int (nI (c + 1)))]) [1, 0] rfl ?_
        exact ih (c + 1) (ab_u2 hh 23 (sp_pr c) (nI (sp_ct f (sp_pr c) c + 1))) (by omega) (by omega) (fun a h1 => by rw [ab_u2_row h1]; exact hf0_ a h1) (fun p hp => by
          by_cases q : p = sp_pr c
          · subst q; rw [ab_u2_at, sp_ct_s fc_ rfl]
          · rw [ab_u2_ne (by omega), sp_ct_n (fun z => q z.2.symm)]; exact hf1 p hp)
set_option maxHeartbeats 1000000 in
set_option maxRecDepth 10000 in
theorem ct_F_sort (l : Launch) (d : Nat) (nr : Nat) (h : Nat → Nat → Int32) (g : Nat → Nat → Int64) (rr : Nat → Option Nat) {f : Nat → Bool} {en : Nat → Nat} (hE : ∀ b, b < 512 → h 24 b = nI (en b)) (hen : ∀ b, b < 512 → en b < 256) (hf : ∀ c, c < 4096 → (en (c % 512)).testBit (c / 512) = f c) (hf0 : f 0 = false) : ab_C l am_F_sort (d + 2) 0 0 [.ref 14] (ab_S nr h g rr) (fun (r_ : Option Value) (M' : ab_Me) => r_ = none ∧ ∃ h', M' = ab_S nr h' g rr ∧ (∀ a, a ≠ 14 → a ≠ 22 → a ≠ 23 → h' a = h a) ∧ (∀ b, b ≠ 3 → h' 14 b = h 14 b) ∧ fk_ok f h') := by
  refine ab_C_of (by decide +kernel) rfl (Nat.le_of_ble_eq_true rfl) ?_
  refine ab_aload_n de_F_sort_0 0 rfl ?_
  refine ab_get (v := .ref 23) fl_F_31 rfl rfl de_F_sort_1 ?_
  refine ab_iconst (v := 0) de_F_sort_4 rfl ?_
  refine ab_cS (as := [.ref 23, .int (0 : Int32)]) (st := []) (ct_A_fillI l _ nr h g rr (x := 23) (n := 23) rfl (by decide) (0 : Int32)) mo_A_fillI ms_A_fillI ml_F_67 rfl rfl (Nat.le_of_ble_eq_true rfl) de_F_sort_5 (fun v_ M_ hK_ hl_ hv_ => ?_)
  obtain ⟨rfl, hm_⟩ := hK_
  have hm_ := hm_.symm
  subst hm_
  change ab_G _ _ _ _ _ _ _ [(0, .ref 14)] [] (ab_S nr (fl_i h 23 23 (0 : Int32)) g rr) _
  refine ab_iconst (v := 1) de_F_sort_8 rfl ?_
  refine ab_istore_n (L' := [(1, .int (1 : Int32)), (0, .ref 14)]) de_F_sort_9 (by decide) rfl ?_
  refine ab_sub (L' := [(0, .ref 14), (1, .int (nI 1))]) [1, 0] rfl ?_
  exact lp_F_sort1 l _ nr h g rr hE hen hf hf0 4096 1 (fl_i h 23 23 0) (by omega) (by omega) (fun a h1 => funext fun b => fl_k h1) (fun p hp => by rw [fl_at hp, sp_ct_n (fun z => by rw [hf0] at z; cases z.1)]; rfl)
