/-! the reference: game -/
set_option maxHeartbeats 1000000 in
set_option maxRecDepth 10000 in
theorem ct_M_intAt (l : Launch) (d : Nat) (nr : Nat) (h : Nat → Nat → Int32) (g : Nat → Nat → Int64) (rr : Nat → Option Nat) {s i : Nat} (hs : s < 8) (hi : i < 60) : ab_C l am_M_intAt d 0 0 [.ref 30, .int (nI s), .int (nI i)] (ab_S nr h g rr) (fun (r_ : Option Value) (M' : ab_Me) => r_ = some (.int ((g 42 ((60 * s) + i)).toInt32)) ∧ M' = (ab_S nr h g rr)) := by
  refine ab_C_of (by decide +kernel) rfl (Nat.le_of_ble_eq_true rfl) ?_
  refine ab_aload_n de_M_intAt_0 0 rfl ?_
  refine ab_get (v := .ref 42) fl_M_47 rfl rfl de_M_intAt_1 ?_
  refine ab_bipush (v := 60) de_M_intAt_4 rfl ?_
  refine ab_iload_n de_M_intAt_6 1 rfl ?_
  refine ab_imul de_M_intAt_7 ?_
  refine ab_top (v' := nI (60 * s)) (ab_mul _ _) ?_
  refine ab_iload_n de_M_intAt_8 2 rfl ?_
  refine ab_iadd de_M_intAt_9 ?_
  refine ab_top (v' := nI ((60 * s) + i)) (ab_add _ _) ?_
  refine ab_lald (v := g 42 ((60 * s) + i)) rfl (ab_in (by omega) (by decide)) (ab_gv (ab_tn (n := ((60 * s) + i)) (by omega))) de_M_intAt_10 ?_
  refine ab_l2i de_M_intAt_11 rfl ?_
  exact ab_ret (v := some (.int ((g 42 ((60 * s) + i)).toInt32))) de_M_intAt_12 ⟨_, rfl⟩ ⟨rfl, rfl⟩
def md_bs (g : Nat → Nat → Int64) (s p : Nat) : Bool := decide ((g 42 ((60 * s) + p)).toInt32 < 0) || decide (2 < (g 42 ((60 * s) + p)).toInt32)
def md_nm (g : Nat → Nat → Int64) (u p : Nat) : Bool := !sp_im (g 42 ((60 * u) + p)).toInt32
/-- n ints written from a place on -/
def md_wr (h : Nat → Nat → Int32) (q c : Nat) (f : Nat → Int32) (k : Nat) : Nat → Nat → Int32 := fun a b => if a = q ∧ c ≤ b ∧ b < c + k then f (b - c) else h a b
theorem md_wr_0 (h : Nat → Nat → Int32) (q c : Nat) (f : Nat → Int32) : md_wr h q c f 0 = h := by
  funext a b
  exact if_neg (fun z => by omega)
theorem md_wr_s (h : Nat → Nat → Int32) (q c : Nat) (f : Nat → Int32) (k : Nat) : ab_u2 (md_wr h q c f k) q (c + k) (f k) = md_wr h q c f (k + 1) := by
  funext a b
  unfold ab_u2 md_wr
  by_cases e : a = q ∧ b = c + k
  · rw [if_pos e, if_pos ⟨e.1, by omega, by omega⟩, e.2, Nat.add_sub_cancel_left]
  · rw [if_neg e]
    by_cases w : a = q ∧ c ≤ b ∧ b < c + k
    · rw [if_pos w, if_pos ⟨w.1, by omega, by omega⟩]
    · rw [if_neg w, if_neg (fun z => by
        rcases Nat.lt_or_ge b (c + k) with v | v
        · exact w ⟨z.1, z.2.1, v⟩
        · exact e ⟨z.1, by omega⟩)]
set_option maxHeartbeats 1000000 in
set_option maxRecDepth 10000 in
theorem lp_M_game_a (l : Launch) (d : Nat) (nr : Nat) (h : Nat → Nat → Int32) (g : Nat → Nat → Int64) (rr : Nat → Option Nat) {s u x : Nat} {w : Int32} (hs : s < 8) {K : Option Value → ab_Me → Prop} (kx : sp_any (md_bs g s) 12 = false → ab_G l none am_M_game (d + 2) 0 0 182 [(0, .ref 30), (1, .int (nI s)), (2, .int (nI u)), (3, .int (nI x)), (4, .int w)] [] (ab_S nr h g rr) (K)) (ky : sp_any (md_bs g s) 12 = true → K (some (.int (-6 : Int32))) (ab_S nr (ab_u2 h 31 6 (h 31 6 + 1)) g rr)) : ∀ (fu_ k : Nat), k ≤ 12 → 12 < k + fu_ → (∀ j, j < k → md_bs g s j = false) → ab_G l none am_M_game (d + 2) 0 0 141 [(0, .ref 30), (1, .int (nI s)), (2, .int (nI u)), (3, .int (nI x)), (4, .int w), (5, .int (nI k))] [] (ab_S nr h g rr) (K) := by
  intro fu_
  induction fu_ with
  | zero => intro k  h1 h2; omega
  | succ fu_ ih =>
    intro k  hN_ hn_ hf0
    refine ab_iload de_M_game_141 5 rfl ?_
    refine ab_bipush (v := 12) de_M_game_143 rfl ?_
    refine ab_icmp_ge (tgt := 182) de_M_game_145 rfl (fun c_145_1 => ?_) (fun c_145_1 => ?_)
    · have hk := ab_le_of (n := 12) (by decide) (by omega) rfl c_145_1
      refine ab_sub (L' := [(0, .ref 30), (1, .int (nI s)), (2, .int (nI u)), (3, .int (nI x)), (4, .int w)]) [0, 1, 2, 3, 4] rfl ?_
      exact kx ((sp_any_no _ _).mpr (fun j hj => hf0 j (by omega)))
    · have hk := ab_nle_of (n := 12) (by decide) (by omega) rfl c_145_1
      refine ab_aload_n de_M_game_148 0 rfl ?_
      refine ab_iload_n de_M_game_149 1 rfl ?_
      refine ab_iload de_M_game_150 5 rfl ?_
      refine ab_cV (as := [.int (nI s), .int (nI k)]) (st := []) (ct_M_intAt l _ nr h g rr (s := s) (i := k) (by omega) (by omega)) mo_M_intAt mi_M_intAt ml_M_134 rfl (by decide) rfl rfl rfl (Nat.le_of_ble_eq_true rfl) de_M_game_152 (fun v_ M_ hK_ hl_ hv_ => ?_)
      obtain ⟨rfl, hm_⟩ := hK_
      have hm_ := hm_.symm
      subst hm_
      change ab_G _ _ _ _ _ _ _ [(0, .ref 30), (1, .int (nI s)), (2, .int (nI u)), (3, .int (nI x)), (4, .int w), (5, .int (nI k))] [.int ((g 42 ((60 * s) + k)).toInt32)] (ab_S nr h g rr) _
      refine ab_if_lt (tgt := 169) de_M_game_155 rfl (fun c_155_2 => ?_) (fun c_155_2 => ?_)
      · refine ab_aload_n de_M_game_169 0 rfl ?_
        refine ab_bipush (v := -6) de_M_game_170 rfl ?_
        refine ab_cV (as := [.int (-6 : Int32)]) (st := []) (ct_M_no l _ nr h g rr (r := (-6 : Int32)) (k := 6) (by decide) (by decide)) mo_M_no mi_M_no ml_M_94 rfl (by decide) rfl rfl rfl (Nat.le_of_ble_eq_true rfl) de_M_game_172 (fun v_ M_ hK_ hl_ hv_ => ?_)
        obtain ⟨rfl, hm_⟩ := hK_
        have hm_ := hm_.symm
        subst hm_
        change ab_G _ _ _ _ _ _ _ [(0, .ref 30), (1, .int (nI s)), (2, .int (nI u)), (3, .int (nI x)), (4, .int w), (5, .int (nI k))] [.int (-6 : Int32)] (ab_S nr (ab_u2 h 31 6 (h 31 6 + 1)) g rr) _
        exact ab_ret (v := some (.int (-6 : Int32))) de_M_game_175 ⟨_, rfl⟩ (ky ((sp_any_iff _ _).mpr ⟨k, hk, by unfold md_bs; rw [decide_eq_true c_155_2]; rfl⟩))
      · refine ab_aload_n de_M_game_158 0 rfl ?_
        refine ab_iload_n de_M_game_159 1 rfl ?_
        refine ab_iload de_M_game_160 5 rfl ?_
        refine ab_cV (as := [.int (nI s), .int (nI k)]) (st := []) (ct_M_intAt l _ nr h g rr (s := s) (i := k) (by omega) (by omega)) mo_M_intAt mi_M_intAt ml_M_134 rfl (by decide) rfl rfl rfl (Nat.le_of_ble_eq_true rfl) de_M_game_162 (fun v_ M_ hK_ hl_ hv_ => ?_)
        obtain ⟨rfl, hm_⟩ := hK_
        have hm_ := hm_.symm
        subst hm_
        change ab_G _ _ _ _ _ _ _ [(0, .ref 30), (1, .int (nI s)), (2, .int (nI u)), (3, .int (nI x)), (4, .int w), (5, .int (nI k))] [.int ((g 42 ((60 * s) + k)).toInt32)] (ab_S nr h g rr) _
        refine ab_iconst (v := 2) de_M_game_165 rfl ?_
        refine ab_icmp_le (tgt := 176) de_M_game_166 rfl (fun c_166_3 => ?_) (fun c_166_3 => ?_)
        · refine ab_iinc (v := nI (k + 1)) (L' := [(5, .int (nI (k + 1))), (0, .ref 30), (1, .int (nI s)), (2, .int (nI u)), (3, .int (nI x)), (4, .int w)]) de_M_game_176 5 rfl (by rw [show Int32.ofInt 1 = nI 1 from rfl, ab_add]) (by decide) rfl ?_
          refine ab_goto (tgt := 141) de_M_game_179 rfl ?_
          refine ab_sub (L' := [(0, .ref 30), (1, .int (nI s)), (2, .int (nI u)), (3, .int (nI x)), (4, .int w), (5, .int (nI (k + 1)))]) [1, 2, 3, 4, 5, 0] rfl ?_
          exact ih (k + 1)  (by omega) (by omega) (fun j hj => by
            by_cases q : j = k
            · rw [q]; unfold md_bs; rw [decide_eq_false c_155_2, decide_eq_false (Int32.not_lt.mpr c_166_3)]; rfl
            · exact hf0 j (by omega))
        · refine ab_aload_n de_M_game_169 0 rfl ?_
          refine ab_bipush (v := -6) de_M_game_170 rfl ?_
          refine ab_cV (as := [.int (-6 : Int32)]) (st := []) (ct_M_no l _ nr h g rr (r := (-6 : Int32)) (k := 6) (by decide) (by decide)) mo_M_no mi_M_no ml_M_94 rfl (by decide) rfl rfl rfl (Nat.le_of_ble_eq_true rfl) de_M_game_172 (fun v_ M_ hK_ hl_ hv_ => ?_)
          obtain ⟨rfl, hm_⟩ := hK_
          have hm_ := hm_.symm
          subst hm_
          change ab_G _ _ _ _ _ _ _ [(0, .ref 30), (1, .int (nI s)), (2, .int (nI u)), (3, .int (nI x)), (4, .int w), (5, .int (nI k))] [.int (-6 : Int32)] (ab_S nr (ab_u2 h 31 6 (h 31 6 + 1)) g rr) _
          exact ab_ret (v := some (.int (-6 : Int32))) de_M_game_175 ⟨_, rfl⟩ (ky ((sp_any_iff _ _).mpr ⟨k, hk, by unfold md_bs; rw [decide_eq_true (Int32.not_le.mp c_166_3)]; simp⟩))
set_option maxHeartbeats 1000000 in
set_option maxRecDepth 10000 in
theorem lp_M_game_b (l : Launch) (d : Nat) (nr : Nat) (h : Nat → Nat → Int32) (g : Nat → Nat → Int64) (rr : Nat → Option Nat) {s u x : Nat} {w : Int32} (hu : u < 8) (hx : x ≤ 20) {K : Option Value → ab_Me → Prop} (kx : sp_any (md_nm g u) x = false → ab_G l none am_M_game (d + 2) 0 0 218 [(0, .ref 30), (1, .int (nI s)), (2, .int (nI u)), (3, .int (nI x)), (4, .int w)] [] (ab_S nr h g rr) (K)) (ky : sp_any (md_nm g u) x = true → K (some (.int (-6 : Int32))) (ab_S nr (ab_u2 h 31 6 (h 31 6 + 1)) g rr)) : ∀ (fu_ k : Nat), k ≤ x → x < k + fu_ → (∀ j, j < k → md_nm g u j = false) → ab_G l none am_M_game (d + 2) 0 0 185 [(0, .ref 30), (1, .int (nI s)), (2, .int (nI u)), (3, .int (nI x)), (4, .int w), (5, .int (nI k))] [] (ab_S nr h g rr) (K) := by
  intro fu_
  induction fu_ with
  | zero => intro k  h1 h2; omega
  | succ fu_ ih =>
    intro k  hN_ hn_ hf0
    refine ab_iload de_M_game_185 5 rfl ?_
    refine ab_iload_n de_M_game_187 3 rfl ?_
    refine ab_icmp_ge (tgt := 218) de_M_game_188 rfl (fun c_188_1 => ?_) (fun c_188_1 => ?_)
    · have hk := (ab_le (by omega) (by omega)).mp c_188_1
      refine ab_sub (L' := [(0, .ref 30), (1, .int (nI s)), (2, .int (nI u)), (3, .int (nI x)), (4, .int w)]) [0, 1, 2, 3, 4] rfl ?_
      exact kx ((sp_any_no _ _).mpr (fun j hj => hf0 j (by omega)))
    · have hk := Nat.lt_of_not_le (fun z_ => c_188_1 ((ab_le (by omega) (by omega)).mpr z_))
      refine ab_aload_n de_M_game_191 0 rfl ?_
      refine ab_aload_n de_M_game_192 0 rfl ?_
      refine ab_iload_n de_M_game_193 2 rfl ?_
      refine ab_iload de_M_game_194 5 rfl ?_
      refine ab_cV (as := [.int (nI u), .int (nI k)]) (st := [.ref 30]) (ct_M_intAt l _ nr h g rr (s := u) (i := k) (by omega) (by omega)) mo_M_intAt mi_M_intAt ml_M_134 rfl (by decide) rfl rfl rfl (Nat.le_of_ble_eq_true rfl) de_M_game_196 (fun v_ M_ hK_ hl_ hv_ => ?_)
      obtain ⟨rfl, hm_⟩ := hK_
      have hm_ := hm_.symm
      subst hm_
      change ab_G _ _ _ _ _ _ _ [(0, .ref 30), (1, .int (nI s)), (2, .int (nI u)), (3, .int (nI x)), (4, .int w), (5, .int (nI k))] [.int ((g 42 ((60 * u) + k)).toInt32), .ref 30] (ab_S nr h g rr) _
      refine ab_cV (as := [.int ((g 42 ((60 * u) + k)).toInt32)]) (st := []) (ct_M_isMove l _ nr h g rr ((g 42 ((60 * u) + k)).toInt32)) mo_M_isMove mi_M_isMove ml_M_201 rfl (by decide) rfl rfl rfl (Nat.le_of_ble_eq_true rfl) de_M_game_199 (fun v_ M_ hK_ hl_ hv_ => ?_)
      obtain ⟨rfl, hm_⟩ := hK_
      have hm_ := hm_.symm
      subst hm_
      change ab_G _ _ _ _ _ _ _ [(0, .ref 30), (1, .int (nI s)), (2, .int (nI u)), (3, .int (nI x)), (4, .int w), (5, .int (nI k))] [.int (ab_bz (sp_im ((g 42 ((60 * u) + k)).toInt32)))] (ab_S nr h g rr) _
      refine ab_if_ne (tgt := 212) de_M_game_202 rfl (fun c_202_2 => ?_) (fun c_202_2 => ?_)
      · refine ab_iinc (v := nI (k + 1)) (L' := [(5, .int (nI (k + 1))), (0, .ref 30), (1, .int (nI s)), (2, .int (nI u)), (3, .int (nI x)), (4, .int w)]) de_M_game_212 5 rfl (by rw [show Int32.ofInt 1 = nI 1 from rfl, ab_add]) (by decide) rfl ?_
        refine ab_goto (tgt := 185) de_M_game_215 rfl ?_
        refine ab_sub (L' := [(0, .ref 30), (1, .int (nI s)), (2, .int (nI u)), (3, .int (nI x)), (4, .int w), (5, .int (nI (k + 1)))]) [1, 2, 3, 4, 5, 0] rfl ?_
        exact ih (k + 1)  (by omega) (by omega) (fun j hj => by
          by_cases q : j = k
          · rw [q]; unfold md_nm; rw [(ab_bz1 _).mp c_202_2]; rfl
          · exact hf0 j (by omega))
      · refine ab_aload_n de_M_game_205 0 rfl ?_
        refine ab_bipush (v := -6) de_M_game_206 rfl ?_
        refine ab_cV (as := [.int (-6 : Int32)]) (st := []) (ct_M_no l _ nr h g rr (r := (-6 : Int32)) (k := 6) (by decide) (by decide)) mo_M_no mi_M_no ml_M_94 rfl (by decide) rfl rfl rfl (Nat.le_of_ble_eq_true rfl) de_M_game_208 (fun v_ M_ hK_ hl_ hv_ => ?_)
        obtain ⟨rfl, hm_⟩ := hK_
        have hm_ := hm_.symm
        subst hm_
        change ab_G _ _ _ _ _ _ _ [(0, .ref 30), (1, .int (nI s)), (2, .int (nI u)), (3, .int (nI x)), (4, .int w), (5, .int (nI k))] [.int (-6 : Int32)] (ab_S nr (ab_u2 h 31 6 (h 31 6 + 1)) g rr) _
        exact ab_ret (v := some (.int (-6 : Int32))) de_M_game_211 ⟨_, rfl⟩ (ky ((sp_any_iff _ _).mpr ⟨k, hk, by unfold md_nm; rw [(ab_bz0 _).mp c_202_2]; rfl⟩))
set_option maxHeartbeats 1000000 in
set_option maxRecDepth 10000 in
theorem lp_M_game_c (l : Launch) (d : Nat) (nr : Nat) (h : Nat → Nat → Int32) (g : Nat → Nat → Int64) (rr : Nat → Option Nat) {s u x y : Nat} {w : Int32} (hy : y < 6) (hy1 : h 30 1 = nI y) (hs : s < 8) {K : Option Value → ab_Me → Prop} (kx : ab_G l none am_M_game (d + 2) 0 0 272 [(0, .ref 30), (1, .int (nI s)), (2, .int (nI u)), (3, .int (nI x)), (4, .int w)] [] (ab_S nr (md_wr h 34 (12 * y) (fun p => (g 42 ((60 * s) + p)).toInt32) 12) g rr) (K)) : ∀ (fu_ k : Nat), k ≤ 12 → 12 < k + fu_ → ab_G l none am_M_game (d + 2) 0 0 237 [(0, .ref 30), (1, .int (nI s)), (2, .int (nI u)), (3, .int (nI x)), (4, .int w), (5, .int (nI k))] [] (ab_S nr (md_wr h 34 (12 * y) (fun p => (g 42 ((60 * s) + p)).toInt32) k) g rr) (K) := by
  intro fu_
  induction fu_ with
  | zero => intro k  h1 h2; omega
  | succ fu_ ih =>
    intro k  hN_ hn_ 
    refine ab_iload de_M_game_237 5 rfl ?_
    refine ab_bipush (v := 12) de_M_game_239 rfl ?_
    refine ab_icmp_ge (tgt := 272) de_M_game_241 rfl (fun c_241_1 => ?_) (fun c_241_1 => ?_)
    · have hk := ab_le_of (n := 12) (by decide) (by omega) rfl c_241_1
      refine ab_sub (L' := [(0, .ref 30), (1, .int (nI s)), (2, .int (nI u)), (3, .int (nI x)), (4, .int w)]) [0, 1, 2, 3, 4] rfl ?_
      rw [show k = 12 by omega]
      exact kx
    · have hk := ab_nle_of (n := 12) (by decide) (by omega) rfl c_241_1
      refine ab_aload_n de_M_game_244 0 rfl ?_
      refine ab_get (v := .ref 34) fl_M_23 rfl rfl de_M_game_245 ?_
      refine ab_bipush (v := 12) de_M_game_248 rfl ?_
      refine ab_aload_n de_M_game_250 0 rfl ?_
      refine ab_get (v := .int ((md_wr h 34 (12 * y) (fun p => (g 42 ((60 * s) + p)).toInt32) k) 30 1)) fl_M_84 rfl rfl de_M_game_251 ?_
      refine ab_top (v' := nI y) ((if_neg (fun z => by cases z.1)).trans hy1) ?_
      refine ab_imul de_M_game_254 ?_
      refine ab_top (v' := nI (12 * y)) (ab_mul _ _) ?_
      refine ab_iload de_M_game_255 5 rfl ?_
      refine ab_iadd de_M_game_257 ?_
      refine ab_top (v' := nI ((12 * y) + k)) (ab_add _ _) ?_
      refine ab_aload_n de_M_game_258 0 rfl ?_
      refine ab_iload_n de_M_game_259 1 rfl ?_
      refine ab_iload de_M_game_260 5 rfl ?_
      refine ab_cV (as := [.int (nI s), .int (nI k)]) (st := [.int (nI ((12 * y) + k)), .ref 34]) (ct_M_intAt l _ nr (md_wr h 34 (12 * y) (fun p => (g 42 ((60 * s) + p)).toInt32) k) g rr (s := s) (i := k) (by omega) (by omega)) mo_M_intAt mi_M_intAt ml_M_134 rfl (by decide) rfl rfl rfl (Nat.le_of_ble_eq_true rfl) de_M_game_262 (fun v_ M_ hK_ hl_ hv_ => ?_)
      obtain ⟨rfl, hm_⟩ := hK_
      have hm_ := hm_.symm
      subst hm_
      change ab_G _ _ _ _ _ _ _ [(0, .ref 30), (1, .int (nI s)), (2, .int (nI u)), (3, .int (nI x)), (4, .int w), (5, .int (nI k))] [.int ((g 42 ((60 * s) + k)).toInt32), .int (nI ((12 * y) + k)), .ref 34] (ab_S nr (md_wr h 34 (12 * y) (fun p => (g 42 ((60 * s) + p)).toInt32) k) g rr) _
      refine ab_iast (x := 34) rfl (ab_in (by omega) (by decide)) de_M_game_265 ?_
      rw [(ab_tn (n := ((12 * y) + k)) (by omega))]
      change ab_G _ _ _ _ _ _ _ _ _ (ab_S nr (ab_u2 (md_wr h 34 (12 * y) (fun p => (g 42 ((60 * s) + p)).toInt32) k) 34 ((12 * y) + k) ((g 42 ((60 * s) + k)).toInt32)) g rr) _
      refine ab_hm (h' := md_wr h 34 (12 * y) (fun p => (g 42 ((60 * s) + p)).toInt32) (k + 1)) (md_wr_s h 34 (12 * y) (fun p => (g 42 ((60 * s) + p)).toInt32) k) ?_
      refine ab_iinc (v := nI (k + 1)) (L' := [(5, .int (nI (k + 1))), (0, .ref 30), (1, .int (nI s)), (2, .int (nI u)), (3, .int (nI x)), (4, .int w)]) de_M_game_266 5 rfl (by rw [show Int32.ofInt 1 = nI 1 from rfl, ab_add]) (by decide) rfl ?_
      refine ab_goto (tgt := 237) de_M_game_269 rfl ?_
      refine ab_sub (L' := [(0, .ref 30), (1, .int (nI s)), (2, .int (nI u)), (3, .int (nI x)), (4, .int w), (5, .int (nI (k + 1)))]) [1, 2, 3, 4, 5, 0] rfl ?_
      exact ih (k + 1)  (by omega) (by omega) 
set_option maxHeartbeats 1000000 in
set_option maxRecDepth 10000 in
theorem lp_M_game_d (l : Launch) (d : Nat) (nr : Nat) (h : Nat → Nat → Int32) (g : Nat → Nat → Int64) (rr : Nat → Option Nat) {s u x y : Nat} {w : Int32} (hy : y < 6) (hy1 : h 30 1 = nI y) (hu : u < 8) (hx : x ≤ 20) {K : Option Value → ab_Me → Prop} (kx : ab_G l none am_M_game (d + 2) 0 0 309 [(0, .ref 30), (1, .int (nI s)), (2, .int (nI u)), (3, .int (nI x)), (4, .int w)] [] (ab_S nr (md_wr h 35 (20 * y) (fun p => (g 42 ((60 * u) + p)).toInt32) x) g rr) (K)) : ∀ (fu_ k : Nat), k ≤ x → x < k + fu_ → ab_G l none am_M_game (d + 2) 0 0 275 [(0, .ref 30), (1, .int (nI s)), (2, .int (nI u)), (3, .int (nI x)), (4, .int w), (5, .int (nI k))] [] (ab_S nr (md_wr h 35 (20 * y) (fun p => (g 42 ((60 * u) + p)).toInt32) k) g rr) (K) := by
  intro fu_
  induction fu_ with
  | zero => intro k  h1 h2; omega
  | succ fu_ ih =>
    intro k  hN_ hn_ 
    refine ab_iload de_M_game_275 5 rfl ?_
    refine ab_iload_n de_M_game_277 3 rfl ?_
    refine ab_icmp_ge (tgt := 309) de_M_game_278 rfl (fun c_278_1 => ?_) (fun c_278_1 => ?_)
    · have hk := (ab_le (by omega) (by omega)).mp c_278_1
      refine ab_sub (L' := [(0, .ref 30), (1, .int (nI s)), (2, .int (nI u)), (3, .int (nI x)), (4, .int w)]) [0, 1, 2, 3, 4] rfl ?_
      rw [show k = x by omega]
      exact kx
    · have hk := Nat.lt_of_not_le (fun z_ => c_278_1 ((ab_le (by omega) (by omega)).mpr z_))
      refine ab_aload_n de_M_game_281 0 rfl ?_
      refine ab_get (v := .ref 35) fl_M_26 rfl rfl de_M_game_282 ?_
      refine ab_bipush (v := 20) de_M_game_285 rfl ?_
      refine ab_aload_n de_M_game_287 0 rfl ?_
      refine ab_get (v := .int ((md_wr h 35 (20 * y) (fun p => (g 42 ((60 * u) + p)).toInt32) k) 30 1)) fl_M_84 rfl rfl de_M_game_288 ?_
      refine ab_top (v' := nI y) ((if_neg (fun z => by cases z.1)).trans hy1) ?_
      refine ab_imul de_M_game_291 ?_
      refine ab_top (v' := nI (20 * y)) (ab_mul _ _) ?_
      refine ab_iload de_M_game_292 5 rfl ?_
      refine ab_iadd de_M_game_294 ?_
      refine ab_top (v' := nI ((20 * y) + k)) (ab_add _ _) ?_
      refine ab_aload_n de_M_game_295 0 rfl ?_
      refine ab_iload_n de_M_game_296 2 rfl ?_
      refine ab_iload de_M_game_297 5 rfl ?_
      refine ab_cV (as := [.int (nI u), .int (nI k)]) (st := [.int (nI ((20 * y) + k)), .ref 35]) (ct_M_intAt l _ nr (md_wr h 35 (20 * y) (fun p => (g 42 ((60 * u) + p)).toInt32) k) g rr (s := u) (i := k) (by omega) (by omega)) mo_M_intAt mi_M_intAt ml_M_134 rfl (by decide) rfl rfl rfl (Nat.le_of_ble_eq_true rfl) de_M_game_299 (fun v_ M_ hK_ hl_ hv_ => ?_)
      obtain ⟨rfl, hm_⟩ := hK_
      have hm_ := hm_.symm
      subst hm_
      change ab_G _ _ _ _ _ _ _ [(0, .ref 30), (1, .int (nI s)), (2, .int (nI u)), (3, .int (nI x)), (4, .int w), (5, .int (nI k))] [.int ((g 42 ((60 * u) + k)).toInt32), .int (nI ((20 * y) + k)), .ref 35] (ab_S nr (md_wr h 35 (20 * y) (fun p => (g 42 ((60 * u) + p)).toInt32) k) g rr) _
      refine ab_iast (x := 35) rfl (ab_in (by omega) (by decide)) de_M_game_302 ?_
      rw [(ab_tn (n := ((20 * y) + k)) (by omega))]
      change ab_G _ _ _ _ _ _ _ _ _ (ab_S nr (ab_u2 (md_wr h 35 (20 * y) (fun p => (g 42 ((60 * u) + p)).toInt32) k) 35 ((20 * y) + k) ((g 42 ((60 * u) + k)).toInt32)) g rr) _
      refine ab_hm (h' := md_wr h 35 (20 * y) (fun p => (g 42 ((60 * u) + p)).toInt32) (k + 1)) (md_wr_s h 35 (20 * y) (fun p => (g 42 ((60 * u) + p)).toInt32) k) ?_
      refine ab_iinc (v := nI (k + 1)) (L' := [(5, .int (nI (k + 1))), (0, .ref 30), (1, .int (nI s)), (2, .int (nI u)), (3, .int (nI x)), (4, .int w)]) de_M_game_303 5 rfl (by rw [show Int32.ofInt 1 = nI 1 from rfl, ab_add]) (by decide) rfl ?_
      refine ab_goto (tgt := 275) de_M_game_306 rfl ?_
      refine ab_sub (L' := [(0, .ref 30), (1, .int (nI s)), (2, .int (nI u)), (3, .int (nI x)), (4, .int w), (5, .int (nI (k + 1)))]) [1, 2, 3, 4, 5, 0] rfl ?_
      exact ih (k + 1)  (by omega) (by omega) 
