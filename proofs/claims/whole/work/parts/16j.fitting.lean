/-! the reference: the CODES that FIT, by PRICE -/
theorem md_pr1_32 : ∀ a, a < 32 → ∀ b, b < 32 → 32 * a + b = 0 ∨ 1 ≤ sp_pr (32 * a + b) := by decide +kernel
theorem md_pr1 {c : Nat} (h1 : 1 ≤ c) (hc : c < 4096) : 1 ≤ sp_pr c := by
  by_cases h : c < 1024
  · have z := md_pr1_32 (c / 32) (by omega) (c % 32) (by omega)
    rw [Nat.div_add_mod] at z
    rcases z with z | z
    · omega
    · exact z
  · unfold sp_pr
    rw [if_neg (show ¬ c / 1024 = 0 by omega)]
    omega
theorem md_ct0 {f : Nat → Bool} {p : Nat} : ∀ n, (∀ c, c < n → ¬ (f c = true ∧ sp_pr c = p)) → sp_ct f p n = 0
  | 0, _ => rfl
  | n + 1, h => by rw [sp_ct_n (h n (by omega)), md_ct0 n (fun c hc => h c (by omega))]
theorem md_bw1 {f : Nat → Bool} (h0 : f 0 = false) : sp_bw f 1 = 0 := by
  rw [sp_bw_s, show sp_bw f 0 = 0 from rfl, md_ct0 4096 (fun c hc z => by
    by_cases e : c = 0
    · rw [e, h0] at z; cases z.1
    · have := md_pr1 (c := c) (by omega) hc
      omega)]
theorem md_bwx (f : Nat → Bool) : sp_bw f 26 = sp_to f := by
  have e : ∀ p, 22 < p → sp_ct f p 4096 = 0 := fun p hp => md_ct0 4096 (fun c hc z => by have := sp_pr22 c; omega)
  rw [sp_bw_s, sp_bw_s, sp_bw_s, e 25 (by decide), e 24 (by decide), e 23 (by decide)]
  rfl
def md_krr (a b : Nat) : Prop := (44 ≤ a ∧ a ≤ 47) ∨ (a = 30 ∧ (b = 24 ∨ b = 25 ∨ b = 27 ∨ b = 28 ∨ b = 31 ∨ b = 32 ∨ b = 33))
/-- nothing but what is kept, and what is no one's, has changed -/
def md_kr (h h' : Nat → Nat → Int32) : Prop := ∀ a b, ¬ md_krr a b → h' a b = h a b
theorem md_kr_rf (h : Nat → Nat → Int32) : md_kr h h := fun _ _ _ => rfl
theorem md_kr_tr {h h1 h2 : Nat → Nat → Int32} (a : md_kr h h1) (b : md_kr h1 h2) : md_kr h h2 := fun x y z => (b x y z).trans (a x y z)
theorem md_kr_sc {h h' : Nat → Nat → Int32} (H : md_sc h h') : md_kr h h' := fun a b n => H a b (fun z => n (by
  rcases z with z | ⟨z, z2⟩
  · exact Or.inl ⟨by omega, by omega⟩
  · exact Or.inr ⟨z, by omega⟩))
theorem md_kr_put {h hh : Nat → Nat → Int32} (H : md_kr h hh) {a b : Nat} (z : md_krr a b) (v : Int32) : md_kr h (ab_u2 hh a b v) := fun x y n => by
  rw [← H x y n]
  exact if_neg (fun e => n (by rw [e.1, e.2]; exact z))
theorem md_kr_row {h h' : Nat → Nat → Int32} (H : md_kr h h') {a : Nat} (h1 : a < 44 ∨ 48 < a) (h2 : a ≠ 30) : h' a = h a := funext fun b => H a b (fun z => by
  rcases z with z | z
  · omega
  · exact h2 z.1)
theorem md_kr_30 {h h' : Nat → Nat → Int32} (H : md_kr h h') {b : Nat} (h1 : b < 24 ∨ b = 26 ∨ b = 29 ∨ b = 30 ∨ 33 < b) : h' 30 b = h 30 b := H 30 b (fun z => by
  rcases z with z | ⟨-, z⟩ <;> omega)
theorem md_T_kr {T : Nat → Nat → Nat} {h h' : Nat → Nat → Int32} (H : md_kr h h') (hT : bo_T T h 32) : bo_T T h' 32 := bo_T_fr (md_kr_row H (by decide) (by decide)) hT
theorem md_G_kr {Z : sp_G} {h h' : Nat → Nat → Int32} (H : md_kr h h') (hG : md_G Z h) : md_G Z h' := md_G_fr (md_kr_30 H (by decide)) (md_kr_row H (by decide) (by decide)) (md_kr_row H (by decide) (by decide)) (md_kr_row H (by decide) (by decide)) (md_kr_row H (by decide) (by decide)) hG
theorem md_bd_kr {m i t : Nat} {h h' : Nat → Nat → Int32} (H : md_kr h h') (hB : md_bd m i t h) : md_bd m i t h' := by
  unfold md_bd at *
  rw [md_kr_30 H (by decide), md_kr_30 H (by decide), md_kr_30 H (by decide)]
  exact hB
theorem md_fq {b : Bool} {p q : Nat} (hp : p < 2 ^ 31) (hq : q < 2 ^ 31) : (if b = true then nI p else -1) = nI q ↔ b = true ∧ p = q := by
  cases b with
  | false =>
    rw [if_neg (by decide)]
    constructor
    · intro z; exact absurd z.symm (sp_nI_ne hq)
    · intro z; cases z.1
  | true =>
    rw [if_pos rfl, ab_inj (by omega) (by omega)]
    constructor
    · intro z; exact ⟨rfl, z⟩
    · intro z; exact z.2
def md_fk (f : Nat → Bool) (h : Nat → Nat → Int32) : Prop := h 30 31 = nI (sp_to f) ∧ fo_in f 45 h
theorem md_fk_fr {f : Nat → Bool} {h h' : Nat → Nat → Int32} (e1 : h' 30 31 = h 30 31) (e2 : h' 45 = h 45) (hk : md_fk f h) : md_fk f h' := by
  unfold md_fk fo_in
  rw [e1, e2]
  exact hk
set_option maxHeartbeats 1000000 in
set_option maxRecDepth 10000 in
theorem lp_M_fitting_c (l : Launch) (d : Nat) (nr : Nat) (h : Nat → Nat → Int32) (g : Nat → Nat → Int64) (rr : Nat → Option Nat) {T : Nat → Nat → Nat} (hTM : bo_T T h 32) (hO : sp_ok T) {Z : sp_G} (hZ : gm_ok Z) (hG : md_G Z h) {q : Nat} (hq : q < 26) {K : Option Value → ab_Me → Prop} (kx : ∀ (hh : Nat → Nat → Int32), md_kr h hh → hh 30 33 = h 30 33 → hh 30 31 = nI (sp_bw (sp_ok1 T Z) (q + 1)) → (∀ e_, 1 ≤ e_ → e_ < 4096 → hh 46 e_ = (if sp_ok1 T Z e_ = true then nI (sp_pr e_) else -1)) → (∀ e_, e_ < 4096 → (sp_ok1 T Z) e_ = true → (sp_pr e_ < q ∨ (sp_pr e_ = q ∧ e_ < 4096)) → hh 45 (sp_rk (sp_ok1 T Z) e_) = nI e_) → ab_G l none am_M_fitting (d + 7) 0 0 106 [(0, .ref 30), (1, .int (nI q))] [] (ab_S nr hh g rr) (K)) : ∀ (fu_ c : Nat) (hh : Nat → Nat → Int32), c ≤ 4096 → 4096 < c + fu_ → 1 ≤ c → md_kr h hh → hh 30 33 = h 30 33 → hh 30 31 = nI (sp_bw (sp_ok1 T Z) q + sp_ct (sp_ok1 T Z) q c) → (∀ e_, 1 ≤ e_ → e_ < 4096 → hh 46 e_ = (if sp_ok1 T Z e_ = true then nI (sp_pr e_) else -1)) → (∀ e_, e_ < 4096 → (sp_ok1 T Z) e_ = true → (sp_pr e_ < q ∨ (sp_pr e_ = q ∧ e_ < c)) → hh 45 (sp_rk (sp_ok1 T Z) e_) = nI e_) → ab_G l none am_M_fitting (d + 7) 0 0 66 [(0, .ref 30), (1, .int (nI q)), (2, .int (nI c))] [] (ab_S nr hh g rr) (K) := by
  intro fu_
  induction fu_ with
  | zero => intro c hh h1 h2; omega
  | succ fu_ ih =>
    intro c hh hN_ hn_ hf0 hf1 hf2 hf3 hf4 hf5
    refine ab_iload_n de_M_fitting_66 2 rfl ?_
    refine ab_sipush (v := 4096) de_M_fitting_67 rfl ?_
    refine ab_icmp_ge (tgt := 106) de_M_fitting_70 rfl (fun c_70_1 => ?_) (fun c_70_1 => ?_)
    · have hc := ab_le_of (n := 4096) (by decide) (by omega) rfl c_70_1
      refine ab_sub (L' := [(0, .ref 30), (1, .int (nI q))]) [0, 1] rfl ?_
      have c_ : c = 4096 := by omega
      subst c_
      exact kx hh hf1 hf2 (by rw [sp_bw_s]; exact hf3) hf4 hf5
    · have hc := ab_nle_of (n := 4096) (by decide) (by omega) rfl c_70_1
      refine ab_aload_n de_M_fitting_73 0 rfl ?_
      refine ab_get (v := .ref 46) fl_M_60 rfl rfl de_M_fitting_74 ?_
      refine ab_iload_n de_M_fitting_77 2 rfl ?_
      refine ab_iald (v := hh 46 c) rfl (ab_in (by omega) (by decide)) (ab_hv (ab_tn (n := c) (by omega))) de_M_fitting_78 ?_
      refine ab_top (v' := (if sp_ok1 T Z c = true then nI (sp_pr c) else -1)) (hf4 c hf0 hc) ?_
      refine ab_iload_n de_M_fitting_79 1 rfl ?_
      refine ab_icmp_ne (tgt := 100) de_M_fitting_80 rfl (fun c_80_2 => ?_) (fun c_80_2 => ?_)
      · refine ab_iinc (v := nI (c + 1)) (L' := [(2, .int (nI (c + 1))), (0, .ref 30), (1, .int (nI q))]) de_M_fitting_100 2 rfl (by rw [show Int32.ofInt 1 = nI 1 from rfl, ab_add]) (by decide) rfl ?_
        refine ab_goto (tgt := 66) de_M_fitting_103 rfl ?_
        refine ab_sub (L' := [(0, .ref 30), (1, .int (nI q)), (2, .int (nI (c + 1)))]) [1, 2, 0] rfl ?_
        have n_ : ¬ ((sp_ok1 T Z) c = true ∧ sp_pr c = q) := fun z => c_80_2 ((md_fq (by have := sp_pr22 c; omega) (by omega)).mpr z)
        exact ih (c + 1) hh (by omega) (by omega) (by omega) hf1 hf2 (by rw [sp_ct_n n_]; exact hf3) hf4 (fun e_ h1_ h2_ h3_ => hf5 e_ h1_ h2_ (by
          rcases h3_ with z | z
          · exact Or.inl z
          · refine Or.inr ⟨z.1, ?_⟩
            by_cases w_ : e_ = c
            · exact absurd ⟨by rw [← w_]; exact h2_, by rw [← w_]; exact z.1⟩ n_
            · omega))
      · obtain ⟨fc_, pc_⟩ := (md_fq (by have := sp_pr22 c; omega) (by omega)).mp c_80_2
        have rk_ : sp_rk (sp_ok1 T Z) c = sp_bw (sp_ok1 T Z) q + sp_ct (sp_ok1 T Z) q c := by unfold sp_rk; rw [pc_]
        have rl_ := sp_rk_lt fc_ hc
        have rb_ : sp_bw (sp_ok1 T Z) (sp_pr c + 1) ≤ 4096 := sp_bw_le (by have := sp_pr22 c; omega)
        rw [rk_] at rl_
        refine ab_aload_n de_M_fitting_83 0 rfl ?_
        refine ab_get (v := .ref 45) fl_M_57 rfl rfl de_M_fitting_84 ?_
        refine ab_aload_n de_M_fitting_87 0 rfl ?_
        refine ab_dup de_M_fitting_88 rfl ?_
        refine ab_get (v := .int (hh 30 31)) fl_M_63 rfl rfl de_M_fitting_89 ?_
        refine ab_top (v' := nI (sp_bw (sp_ok1 T Z) q + sp_ct (sp_ok1 T Z) q c)) (hf3) ?_
        refine ab_dup_x1 de_M_fitting_92 rfl rfl ?_
        refine ab_iconst (v := 1) de_M_fitting_93 rfl ?_
        refine ab_iadd de_M_fitting_94 ?_
        refine ab_top (v' := nI ((sp_bw (sp_ok1 T Z) q + sp_ct (sp_ok1 T Z) q c) + 1)) (ab_add _ _) ?_
        refine ab_putI (x := 30) (j := 31) fl_M_63 rfl (Or.inl rfl) rfl rfl rfl de_M_fitting_95 ?_
        change ab_G _ _ _ _ _ _ _ _ _ (ab_S nr (ab_u2 hh 30 31 (nI ((sp_bw (sp_ok1 T Z) q + sp_ct (sp_ok1 T Z) q c) + 1))) g rr) _
        refine ab_iload_n de_M_fitting_98 2 rfl ?_
        refine ab_iast (x := 45) rfl (ab_in (by omega) (by decide)) de_M_fitting_99 ?_
        rw [(ab_tn (n := (sp_bw (sp_ok1 T Z) q + sp_ct (sp_ok1 T Z) q c)) (by omega))]
        change ab_G _ _ _ _ _ _ _ _ _ (ab_S nr (ab_u2 (ab_u2 hh 30 31 (nI ((sp_bw (sp_ok1 T Z) q + sp_ct (sp_ok1 T Z) q c) + 1))) 45 (sp_bw (sp_ok1 T Z) q + sp_ct (sp_ok1 T Z) q c) (nI c)) g rr) _
        refine ab_iinc (v := nI (c + 1)) (L' := [(2, .int (nI (c + 1))), (0, .ref 30), (1, .int (nI q))]) de_M_fitting_100 2 rfl (by rw [show Int32.ofInt 1 = nI 1 from rfl, ab_add]) (by decide) rfl ?_
        refine ab_goto (tgt := 66) de_M_fitting_103 rfl ?_
        refine ab_sub (L' := [(0, .ref 30), (1, .int (nI q)), (2, .int (nI (c + 1)))]) [1, 2, 0] rfl ?_
        exact ih (c + 1) _ (by omega) (by omega) (by omega) (md_kr_put (md_kr_put hf1 (Or.inr ⟨rfl, by decide⟩) _) (Or.inl (by decide)) _) (by rw [ab_u2_k (by decide), ab_u2_ne (by decide)]; exact hf2) (by rw [ab_u2_k (by decide), ab_u2_at, sp_ct_s fc_ pc_]; rfl) (fun e_ h1_ h2_ => by rw [ab_u2_k (by decide), ab_u2_k (by decide)]; exact hf4 e_ h1_ h2_) (fun e_ h1_ h2_ h3_ => by
          by_cases w_ : e_ = c
          · rw [w_, rk_]; exact ab_u2_at
          · rw [ab_u2_ne (fun z => w_ (sp_rk_inj h2_ fc_ h1_ (by omega) (by rw [rk_]; exact z.2))), ab_u2_k (by decide)]
            exact hf5 e_ h1_ h2_ (by omega))
set_option maxHeartbeats 1000000 in
set_option maxRecDepth 10000 in
theorem lp_M_fitting_q (l : Launch) (d : Nat) (nr : Nat) (h : Nat → Nat → Int32) (g : Nat → Nat → Int64) (rr : Nat → Option Nat) {T : Nat → Nat → Nat} (hTM : bo_T T h 32) (hO : sp_ok T) {Z : sp_G} (hZ : gm_ok Z) (hG : md_G Z h) : ∀ (fu_ q : Nat) (hh : Nat → Nat → Int32), q ≤ 26 → 26 < q + fu_ → 1 ≤ q → md_kr h hh → hh 30 33 = h 30 33 → hh 30 31 = nI (sp_bw (sp_ok1 T Z) q) → (∀ e_, 1 ≤ e_ → e_ < 4096 → hh 46 e_ = (if sp_ok1 T Z e_ = true then nI (sp_pr e_) else -1)) → (∀ e_, e_ < 4096 → (sp_ok1 T Z) e_ = true → sp_pr e_ < q → hh 45 (sp_rk (sp_ok1 T Z) e_) = nI e_) → ab_G l none am_M_fitting (d + 7) 0 0 58 [(0, .ref 30), (1, .int (nI q))] [] (ab_S nr hh g rr) (fun (r_ : Option Value) (M' : ab_Me) => r_ = some (.int (nI (sp_to (sp_ok1 T Z)))) ∧ ∃ h', M' = ab_S nr h' g rr ∧ md_kr h h' ∧ md_fk (sp_ok1 T Z) h' ∧ h' 30 32 = 0 ∧ h' 30 33 = h 30 33) := by
  intro fu_
  induction fu_ with
  | zero => intro q hh h1 h2; omega
  | succ fu_ ih =>
    intro q hh hN_ hn_ hf0 hf1 hf2 hf3 hf4 hf5
    refine ab_iload_n de_M_fitting_58 1 rfl ?_
    refine ab_bipush (v := 25) de_M_fitting_59 rfl ?_
    refine ab_icmp_gt (tgt := 112) de_M_fitting_61 rfl (fun c_61_1 => ?_) (fun c_61_1 => ?_)
    · have hq := ab_lt_of (n := 25) (by decide) (by omega) rfl c_61_1
      refine ab_aload_n de_M_fitting_112 0 rfl ?_
      refine ab_iconst (v := 0) de_M_fitting_113 rfl ?_
      refine ab_putI (x := 30) (j := 32) fl_M_258 rfl (Or.inl rfl) rfl rfl rfl de_M_fitting_114 ?_
      change ab_G _ _ _ _ _ _ _ _ _ (ab_S nr (ab_u2 hh 30 32 (0 : Int32)) g rr) _
      refine ab_aload_n de_M_fitting_117 0 rfl ?_
      refine ab_get (v := .int ((ab_u2 hh 30 32 (0 : Int32)) 30 31)) fl_M_63 rfl rfl de_M_fitting_118 ?_
      refine ab_top (v' := nI (sp_to (sp_ok1 T Z))) (by rw [ab_u2_ne (by decide), hf3, show q = 26 by omega, md_bwx]) ?_
      exact ab_ret (v := some (.int (nI (sp_to (sp_ok1 T Z))))) de_M_fitting_121 ⟨_, rfl⟩ ⟨rfl, _, rfl, md_kr_put hf1 (Or.inr ⟨rfl, by decide⟩) _, ⟨by rw [ab_u2_ne (by decide), hf3, show q = 26 by omega, md_bwx], fo_of (fun c_ h1_ h2_ => by rw [ab_u2_k (by decide)]; exact hf5 c_ h1_ h2_ (by have := sp_pr22 c_; omega))⟩, rfl, by rw [ab_u2_ne (by decide)]; exact hf2⟩
    · have hq := ab_nlt_of (n := 25) (by decide) (by omega) rfl c_61_1
      refine ab_iconst (v := 1) de_M_fitting_64 rfl ?_
      refine ab_istore_n (L' := [(2, .int (1 : Int32)), (0, .ref 30), (1, .int (nI q))]) de_M_fitting_65 (by decide) rfl ?_
      refine ab_sub (L' := [(0, .ref 30), (1, .int (nI q)), (2, .int (nI 1))]) [1, 2, 0] rfl ?_
      refine lp_M_fitting_c l d nr h g rr hTM hO hZ hG (q := q) (by omega) (fun h2_ k1_ k2_ k3_ k4_ k5_ => ?_) 4096 1 hh (by omega) (by omega) (by omega) hf1 hf2 (by rw [sp_ct_n (fun z => by cases z.1)]; exact hf3) hf4 (fun e_ x1_ x2_ x3_ => hf5 e_ x1_ x2_ (by
        rcases x3_ with z | z
        · exact z
        · rw [show e_ = 0 by omega] at x2_; cases x2_))
      refine ab_iinc (v := nI (q + 1)) (L' := [(1, .int (nI (q + 1))), (0, .ref 30)]) de_M_fitting_106 1 rfl (by rw [show Int32.ofInt 1 = nI 1 from rfl, ab_add]) (by decide) rfl ?_
      refine ab_goto (tgt := 58) de_M_fitting_109 rfl ?_
      refine ab_sub (L' := [(0, .ref 30), (1, .int (nI (q + 1)))]) [1, 0] rfl ?_
      exact ih (q + 1) h2_ (by omega) (by omega) (by omega) k1_ k2_ k3_ k4_ (fun e_ x1_ x2_ x3_ => k5_ e_ x1_ x2_ (by omega))
set_option maxHeartbeats 1000000 in
set_option maxRecDepth 10000 in
theorem lp_M_fitting_1 (l : Launch) (d : Nat) (nr : Nat) (h : Nat → Nat → Int32) (g : Nat → Nat → Int64) (rr : Nat → Option Nat) {T : Nat → Nat → Nat} (hTM : bo_T T h 32) (hO : sp_ok T) {Z : sp_G} (hZ : gm_ok Z) (hG : md_G Z h) : ∀ (fu_ c : Nat) (hh : Nat → Nat → Int32), c ≤ 4096 → 4096 < c + fu_ → 1 ≤ c → md_kr h hh → hh 30 33 = h 30 33 → hh 30 31 = 0 → (∀ e_, 1 ≤ e_ → e_ < c → hh 46 e_ = (if sp_ok1 T Z e_ = true then nI (sp_pr e_) else -1)) → ab_G l none am_M_fitting (d + 7) 0 0 20 [(0, .ref 30), (1, .int (nI c))] [] (ab_S nr hh g rr) (fun (r_ : Option Value) (M' : ab_Me) => r_ = some (.int (nI (sp_to (sp_ok1 T Z)))) ∧ ∃ h', M' = ab_S nr h' g rr ∧ md_kr h h' ∧ md_fk (sp_ok1 T Z) h' ∧ h' 30 32 = 0 ∧ h' 30 33 = h 30 33) := by
  intro fu_
  induction fu_ with
  | zero => intro c hh h1 h2; omega
  | succ fu_ ih =>
    intro c hh hN_ hn_ hf0 hf1 hf2 hf3 hf4
    refine ab_iload_n de_M_fitting_20 1 rfl ?_
    refine ab_sipush (v := 4096) de_M_fitting_21 rfl ?_
    refine ab_icmp_ge (tgt := 56) de_M_fitting_24 rfl (fun c_24_1 => ?_) (fun c_24_1 => ?_)
    · have hc := ab_le_of (n := 4096) (by decide) (by omega) rfl c_24_1
      refine ab_iconst (v := 1) de_M_fitting_56 rfl ?_
      refine ab_istore_n (L' := [(1, .int (1 : Int32)), (0, .ref 30)]) de_M_fitting_57 (by decide) rfl ?_
      refine ab_sub (L' := [(0, .ref 30), (1, .int (nI 1))]) [1, 0] rfl ?_
      exact lp_M_fitting_q l d nr h g rr hTM hO hZ hG 26 1 hh (by omega) (by omega) (by omega) hf1 hf2 (by rw [hf3, md_bw1 rfl]; rfl) (by rw [show c = 4096 by omega] at hf4; exact hf4) (fun e_ x1_ x2_ x3_ => by
        have y_ := (sp_ok1_iff.mp x2_).1
        have := md_pr1 y_ x1_
        omega)
    · have hc := ab_nle_of (n := 4096) (by decide) (by omega) rfl c_24_1
      refine ab_aload_n de_M_fitting_27 0 rfl ?_
      refine ab_get (v := .ref 46) fl_M_60 rfl rfl de_M_fitting_28 ?_
      refine ab_iload_n de_M_fitting_31 1 rfl ?_
      refine ab_aload_n de_M_fitting_32 0 rfl ?_
      refine ab_iload_n de_M_fitting_33 1 rfl ?_
      refine ab_cV (as := [.int (nI c)]) (st := [.int (nI c), .ref 46]) (ct_M_isFit l _ nr hh g rr (md_T_kr hf1 hTM) hO hc hZ (md_G_kr hf1 hG)) mo_M_isFit mi_M_isFit ml_M_261 rfl (by decide) rfl rfl rfl (Nat.le_of_ble_eq_true rfl) de_M_fitting_34 (fun v_ M_ hK_ hl_ hv_ => ?_)
      obtain ⟨rfl, h1_, rfl, s1_⟩ := hK_
      change ab_G _ _ _ _ _ _ _ [(0, .ref 30), (1, .int (nI c))] [.int (ab_bz (!sp_any (fun g => !decide (sp_fl T c Z g = -1)) (gN Z))), .int (nI c), .ref 46] (ab_S nr h1_ g rr) _
      refine ab_if_eq (tgt := 48) de_M_fitting_37 rfl (fun c_37_2 => ?_) (fun c_37_2 => ?_)
      · refine ab_iconst (v := -1) de_M_fitting_48 rfl ?_
        refine ab_iast (x := 46) rfl (ab_in (by omega) (by decide)) de_M_fitting_49 ?_
        rw [(ab_tn (n := c) (by omega))]
        change ab_G _ _ _ _ _ _ _ _ _ (ab_S nr (ab_u2 h1_ 46 c (-1 : Int32)) g rr) _
        refine ab_iinc (v := nI (c + 1)) (L' := [(1, .int (nI (c + 1))), (0, .ref 30)]) de_M_fitting_50 1 rfl (by rw [show Int32.ofInt 1 = nI 1 from rfl, ab_add]) (by decide) rfl ?_
        refine ab_goto (tgt := 20) de_M_fitting_53 rfl ?_
        refine ab_sub (L' := [(0, .ref 30), (1, .int (nI (c + 1)))]) [1, 0] rfl ?_
        have fc_ : (sp_ok1 T Z) c = false := (by show (decide (1 ≤ c) && _) = _; rw [decide_eq_true hf0, Bool.true_and]; exact (ab_bz0 _).mp c_37_2)
        exact ih (c + 1) _ (by omega) (by omega) (by omega) (md_kr_put (md_kr_tr hf1 (md_kr_sc s1_)) (Or.inl (by decide)) _) (by rw [ab_u2_k (by decide)]; exact (md_sc_30 s1_ (by decide) (by decide) (by decide) (by decide)).trans hf2) (by rw [ab_u2_k (by decide)]; exact (md_sc_30 s1_ (by decide) (by decide) (by decide) (by decide)).trans hf3) (fun e_ x1_ x2_ => by
          by_cases w_ : e_ = c
          · rw [w_, ab_u2_at]; rw [if_neg (by rw [fc_]; decide)]
          · rw [ab_u2_ne (by omega)]
            exact (congrFun (md_sc_row s1_ (by decide) (by decide)) e_).trans (hf4 e_ x1_ (by omega)))
      · refine ab_aload_n de_M_fitting_40 0 rfl ?_
        refine ab_iload_n de_M_fitting_41 1 rfl ?_
        refine ab_cV (as := [.int (nI c)]) (st := [.int (nI c), .ref 46]) (ct_M_priceOf l _ nr h1_ g rr (c := c) hc) mo_M_priceOf mi_M_priceOf ml_M_116 rfl (by decide) rfl rfl rfl (Nat.le_of_ble_eq_true rfl) de_M_fitting_42 (fun v_ M_ hK_ hl_ hv_ => ?_)
        obtain ⟨rfl, hm_⟩ := hK_
        have hm_ := hm_.symm
        subst hm_
        change ab_G _ _ _ _ _ _ _ [(0, .ref 30), (1, .int (nI c))] [.int (nI (sp_pr c)), .int (nI c), .ref 46] (ab_S nr h1_ g rr) _
        refine ab_goto (tgt := 49) de_M_fitting_45 rfl ?_
        refine ab_iast (x := 46) rfl (ab_in (by omega) (by decide)) de_M_fitting_49 ?_
        rw [(ab_tn (n := c) (by omega))]
        change ab_G _ _ _ _ _ _ _ _ _ (ab_S nr (ab_u2 h1_ 46 c (nI (sp_pr c))) g rr) _
        refine ab_iinc (v := nI (c + 1)) (L' := [(1, .int (nI (c + 1))), (0, .ref 30)]) de_M_fitting_50 1 rfl (by rw [show Int32.ofInt 1 = nI 1 from rfl, ab_add]) (by decide) rfl ?_
        refine ab_goto (tgt := 20) de_M_fitting_53 rfl ?_
        refine ab_sub (L' := [(0, .ref 30), (1, .int (nI (c + 1)))]) [1, 0] rfl ?_
        have fc_ : (sp_ok1 T Z) c = true := (by show (decide (1 ≤ c) && _) = _; rw [decide_eq_true hf0, Bool.true_and]; exact (ab_bz1 _).mp c_37_2)
        exact ih (c + 1) _ (by omega) (by omega) (by omega) (md_kr_put (md_kr_tr hf1 (md_kr_sc s1_)) (Or.inl (by decide)) _) (by rw [ab_u2_k (by decide)]; exact (md_sc_30 s1_ (by decide) (by decide) (by decide) (by decide)).trans hf2) (by rw [ab_u2_k (by decide)]; exact (md_sc_30 s1_ (by decide) (by decide) (by decide) (by decide)).trans hf3) (fun e_ x1_ x2_ => by
          by_cases w_ : e_ = c
          · rw [w_, ab_u2_at]; rw [if_pos fc_]
          · rw [ab_u2_ne (by omega)]
            exact (congrFun (md_sc_row s1_ (by decide) (by decide)) e_).trans (hf4 e_ x1_ (by omega)))
set_option maxHeartbeats 1000000 in
set_option maxRecDepth 10000 in
theorem ct_M_fitting (l : Launch) (d : Nat) (nr : Nat) (h : Nat → Nat → Int32) (g : Nat → Nat → Int64) (rr : Nat → Option Nat) {T : Nat → Nat → Nat} (hTM : bo_T T h 32) (hO : sp_ok T) {Z : sp_G} (hZ : gm_ok Z) (hG : md_G Z h) (hk : h 30 31 = -1 ∨ md_fk (sp_ok1 T Z) h) : ab_C l am_M_fitting (d + 7) 0 0 [.ref 30] (ab_S nr h g rr) (fun (r_ : Option Value) (M' : ab_Me) => r_ = some (.int (nI (sp_to (sp_ok1 T Z)))) ∧ ∃ h', M' = ab_S nr h' g rr ∧ md_kr h h' ∧ md_fk (sp_ok1 T Z) h' ∧ (h' = h ∨ h' 30 32 = 0) ∧ h' 30 33 = h 30 33) := by
  refine ab_C_of (by decide +kernel) rfl (Nat.le_of_ble_eq_true rfl) ?_
  refine ab_aload_n de_M_fitting_0 0 rfl ?_
  refine ab_get (v := .int (h 30 31)) fl_M_63 rfl rfl de_M_fitting_1 ?_
  refine ab_iconst (v := -1) de_M_fitting_4 rfl ?_
  refine ab_icmp_eq (tgt := 13) de_M_fitting_5 rfl (fun c_5_1 => ?_) (fun c_5_1 => ?_)
  · refine ab_aload_n de_M_fitting_13 0 rfl ?_
    refine ab_iconst (v := 0) de_M_fitting_14 rfl ?_
    refine ab_putI (x := 30) (j := 31) fl_M_63 rfl (Or.inl rfl) rfl rfl rfl de_M_fitting_15 ?_
    change ab_G _ _ _ _ _ _ _ _ _ (ab_S nr (ab_u2 h 30 31 (0 : Int32)) g rr) _
    refine ab_iconst (v := 1) de_M_fitting_18 rfl ?_
    refine ab_istore_n (L' := [(1, .int (1 : Int32)), (0, .ref 30)]) de_M_fitting_19 (by decide) rfl ?_
    refine ab_sub (L' := [(0, .ref 30), (1, .int (nI 1))]) [1, 0] rfl ?_
    refine ab_wk (fun r_ M_ z => ?_) (lp_M_fitting_1 l d nr h g rr hTM hO hZ hG 4096 1 (ab_u2 h 30 31 0) (by omega) (by omega) (by omega) (md_kr_put (md_kr_rf h) (Or.inr ⟨rfl, by decide⟩) _) (ab_u2_ne (by decide)) ab_u2_at (fun e_ x1_ x2_ => by omega))
    obtain ⟨z1, h1_, z2, z3, z4, z5, z6⟩ := z
    exact ⟨z1, h1_, z2, z3, z4, Or.inr z5, z6⟩
  · have fk_ : md_fk (sp_ok1 T Z) h := hk.resolve_left c_5_1
    refine ab_aload_n de_M_fitting_8 0 rfl ?_
    refine ab_get (v := .int (h 30 31)) fl_M_63 rfl rfl de_M_fitting_9 ?_
    refine ab_top (v' := nI (sp_to (sp_ok1 T Z))) (fk_.1) ?_
    exact ab_ret (v := some (.int (nI (sp_to (sp_ok1 T Z))))) de_M_fitting_12 ⟨_, rfl⟩ ⟨rfl, h, rfl, md_kr_rf h, fk_, Or.inl rfl, rfl⟩
