/-! the reference: a MOVE is DONE -/
theorem md_m1t {m i p q : Nat} (hm : m < 4096) (hb : m.testBit p = true) : sp_clr (sp_clr m p) q ||| 2 ^ q = sp_m1 m i p q := by
  have z := md_m1 (m := m) (i := i) (p := p) (q := q) hm
  rwa [if_pos hb] at z
theorem md_m1f {m i p q : Nat} (hm : m < 4096) (hb : m.testBit p = false) : sp_clr (sp_clr m p) q ||| 0 = sp_m1 m i p q := by
  have z := md_m1 (m := m) (i := i) (p := p) (q := q) hm
  rwa [if_neg (by rw [hb]; decide)] at z
theorem md_i1t {m i p q : Nat} (hi : i < 4096) (hd : sp_dj m i) (hb : i.testBit p = true) : sp_clr (sp_clr i p) q ||| 2 ^ q = sp_i1 m i p q := by
  have z := md_i1 (m := m) (i := i) (p := p) (q := q) hi hd
  rwa [if_pos hb] at z
theorem md_i1f {m i p q : Nat} (hi : i < 4096) (hd : sp_dj m i) (hb : i.testBit p = false) : sp_clr (sp_clr i p) q ||| 0 = sp_i1 m i p q := by
  have z := md_i1 (m := m) (i := i) (p := p) (q := q) hi hd
  rwa [if_neg (by rw [hb]; decide)] at z
set_option maxHeartbeats 1000000 in
set_option maxRecDepth 10000 in
theorem st_M_does_305 (l : Launch) (d : Nat) (nr : Nat) (h : Nat → Nat → Int32) (g : Nat → Nat → Int64) (rr : Nat → Option Nat) {a b a' b' : Nat} (ea : a = a') (eb : b = b') : ab_G l none am_M_does (d + 3) 0 0 305 [(0, .ref 30), (7, .int (nI a)), (8, .int (nI b))] [] (ab_S nr h g rr) (fun (r_ : Option Value) (M' : ab_Me) => r_ = none ∧ M' = (ab_S nr (ab_u2 (ab_u2 h 30 24 (nI b')) 30 25 (nI a')) g rr)) := by

  refine ab_aload_n de_M_does_305 0 rfl ?_
  refine ab_iload de_M_does_306 2 rfl ?_
  refine ab_putI (x := 30) (j := 24) fl_M_207 rfl (Or.inl rfl) rfl rfl rfl de_M_does_308 ?_
  change ab_G _ _ _ _ _ _ _ _ _ (ab_S nr (ab_u2 h 30 24 (nI b)) g rr) _
  refine ab_aload_n de_M_does_311 0 rfl ?_
  refine ab_iload de_M_does_312 1 rfl ?_
  refine ab_putI (x := 30) (j := 25) fl_M_210 rfl (Or.inl rfl) rfl rfl rfl de_M_does_314 ?_
  change ab_G _ _ _ _ _ _ _ _ _ (ab_S nr (ab_u2 (ab_u2 h 30 24 (nI b)) 30 25 (nI a)) g rr) _
  exact ab_ret (v := none) de_M_does_317 rfl ⟨rfl, by rw [ea, eb]⟩
set_option maxHeartbeats 1000000 in
set_option maxRecDepth 10000 in
theorem lp_M_does_k (l : Launch) (d : Nat) (nr : Nat) (h : Nat → Nat → Int32) (g : Nat → Nat → Int64) (rr : Nat → Option Nat) {T : Nat → Nat → Nat} (hTM : bo_T T h 32) (hO : sp_ok T) {c i p q m1 i1 : Nat} (hc : c < 4096) (hi : i < 4096) (hp : p < 12) (hq : q < 12) (h1 : m1 < 4096) (h2 : i1 < 4096) {o : Nat} (ho : o < 12) {K : Option Value → ab_Me → Prop} (kx : ab_G l none am_M_does (d + 3) 0 0 280 [(0, .ref 30), (1, .int (nI c)), (4, .int (nI i)), (6, .int (nI q)), (7, .int (nI m1)), (8, .int (nI i1)), (9, .int (nI p)), (12, .int (nI o)), (13, .int (ab_bz (sp_any (md_jc T c i p q o) 3)))] [] (ab_S nr h g rr) (K)) : ∀ (fu_ k : Nat), k ≤ 3 → 3 < k + fu_ → ab_G l none am_M_does (d + 3) 0 0 189 [(0, .ref 30), (1, .int (nI c)), (4, .int (nI i)), (6, .int (nI q)), (7, .int (nI m1)), (8, .int (nI i1)), (9, .int (nI p)), (12, .int (nI o)), (13, .int (ab_bz (sp_any (md_jc T c i p q o) k))), (14, .int (nI k))] [] (ab_S nr h g rr) (K) := by
  intro fu_
  induction fu_ with
  | zero => intro k  h1 h2; omega
  | succ fu_ ih =>
    intro k  hN_ hn_ 
    refine ab_iload de_M_does_189 9 rfl ?_
    refine ab_iconst (v := 3) de_M_does_191 rfl ?_
    refine ab_icmp_ge (tgt := 280) de_M_does_192 rfl (fun c_192_1 => ?_) (fun c_192_1 => ?_)
    · have hk := ab_le_of (n := 3) (by decide) (by omega) rfl c_192_1
      refine ab_sub (L' := [(0, .ref 30), (1, .int (nI c)), (4, .int (nI i)), (6, .int (nI q)), (7, .int (nI m1)), (8, .int (nI i1)), (9, .int (nI p)), (12, .int (nI o)), (13, .int (ab_bz (sp_any (md_jc T c i p q o) k)))]) [0, 1, 2, 3, 4, 5, 6, 7, 8] rfl ?_
      rw [show k = 3 by omega]
      exact kx
    · have hk := ab_nle_of (n := 3) (by decide) (by omega) rfl c_192_1
      have tp_ := hO.lt hk hp
      have to_ := hO.lt hk ho
      refine ab_iload de_M_does_195 8 rfl ?_
      refine ab_if_ne (tgt := 267) de_M_does_197 rfl (fun c_197_2 => ?_) (fun c_197_2 => ?_)
      · refine ab_iconst (v := 1) de_M_does_267 rfl ?_
        refine ab_goto (tgt := 272) de_M_does_268 rfl ?_
        refine ab_istore (L' := [(13, .int (1 : Int32)), (0, .ref 30), (1, .int (nI c)), (4, .int (nI i)), (6, .int (nI q)), (7, .int (nI m1)), (8, .int (nI i1)), (9, .int (nI p)), (12, .int (nI o)), (14, .int (nI k))]) de_M_does_272 (by decide) rfl ?_
        refine ab_iinc (v := nI (k + 1)) (L' := [(14, .int (nI (k + 1))), (13, .int (1 : Int32)), (0, .ref 30), (1, .int (nI c)), (4, .int (nI i)), (6, .int (nI q)), (7, .int (nI m1)), (8, .int (nI i1)), (9, .int (nI p)), (12, .int (nI o))]) de_M_does_274 9 rfl (by rw [show Int32.ofInt 1 = nI 1 from rfl, ab_add]) (by decide) rfl ?_
        refine ab_goto (tgt := 189) de_M_does_277 rfl ?_
        refine ab_sub (L' := [(0, .ref 30), (1, .int (nI c)), (4, .int (nI i)), (6, .int (nI q)), (7, .int (nI m1)), (8, .int (nI i1)), (9, .int (nI p)), (12, .int (nI o)), (13, .int (1 : Int32)), (14, .int (nI (k + 1)))]) [2, 3, 4, 5, 6, 7, 8, 9, 1, 0] rfl ?_
        have e_ : ab_bz (sp_any (md_jc T c i p q o) (k + 1)) = 1 := (ab_bz_t (by rw [sp_any_s]; rw [(ab_bz1 _).mp c_197_2]; simp)).symm
        have z_ := ih (k + 1) (by omega) (by omega)
        rw [e_] at z_
        exact z_
      · refine ab_iload_n de_M_does_200 1 rfl ?_
        refine ab_iconst (v := 3) de_M_does_201 rfl ?_
        refine ab_iload de_M_does_202 9 rfl ?_
        refine ab_iadd de_M_does_204 ?_
        refine ab_top (v' := nI (3 + k)) (ab_add _ _) ?_
        refine ab_ishr de_M_does_205 ?_
        refine ab_top (v' := nI (c >>> (3 + k))) (ab_shr (by omega) (by omega)) ?_
        refine ab_iconst (v := 1) de_M_does_206 rfl ?_
        refine ab_iand de_M_does_207 ?_
        refine ab_top (v' := nI (c.testBit (3 + k)).toNat) ((ab_and _ 1).trans (congrArg nI (sp_bit1 _ _))) ?_
        refine ab_iconst (v := 1) de_M_does_208 rfl ?_
        refine ab_icmp_ne (tgt := 271) de_M_does_209 rfl (fun c_209_3 => ?_) (fun c_209_3 => ?_)
        · refine ab_iconst (v := 0) de_M_does_271 rfl ?_
          refine ab_istore (L' := [(13, .int (0 : Int32)), (0, .ref 30), (1, .int (nI c)), (4, .int (nI i)), (6, .int (nI q)), (7, .int (nI m1)), (8, .int (nI i1)), (9, .int (nI p)), (12, .int (nI o)), (14, .int (nI k))]) de_M_does_272 (by decide) rfl ?_
          refine ab_iinc (v := nI (k + 1)) (L' := [(14, .int (nI (k + 1))), (13, .int (0 : Int32)), (0, .ref 30), (1, .int (nI c)), (4, .int (nI i)), (6, .int (nI q)), (7, .int (nI m1)), (8, .int (nI i1)), (9, .int (nI p)), (12, .int (nI o))]) de_M_does_274 9 rfl (by rw [show Int32.ofInt 1 = nI 1 from rfl, ab_add]) (by decide) rfl ?_
          refine ab_goto (tgt := 189) de_M_does_277 rfl ?_
          refine ab_sub (L' := [(0, .ref 30), (1, .int (nI c)), (4, .int (nI i)), (6, .int (nI q)), (7, .int (nI m1)), (8, .int (nI i1)), (9, .int (nI p)), (12, .int (nI o)), (13, .int (0 : Int32)), (14, .int (nI (k + 1)))]) [2, 3, 4, 5, 6, 7, 8, 9, 1, 0] rfl ?_
          have e_ : ab_bz (sp_any (md_jc T c i p q o) (k + 1)) = 0 := (ab_bz_f (by rw [sp_any_s]; rw [(ab_bz0 _).mp c_197_2]; unfold md_jc; rw [sp_b1n c_209_3]; simp)).symm
          have z_ := ih (k + 1) (by omega) (by omega)
          rw [e_] at z_
          exact z_
        · refine ab_iload de_M_does_212 2 rfl ?_
          refine ab_iload de_M_does_214 7 rfl ?_
          refine ab_ishr de_M_does_216 ?_
          refine ab_top (v' := nI (i >>> o)) (ab_shr (by omega) (by omega)) ?_
          refine ab_iconst (v := 1) de_M_does_217 rfl ?_
          refine ab_iand de_M_does_218 ?_
          refine ab_top (v' := nI (i.testBit o).toNat) ((ab_and _ 1).trans (congrArg nI (sp_bit1 _ _))) ?_
          refine ab_iconst (v := 1) de_M_does_219 rfl ?_
          refine ab_icmp_ne (tgt := 271) de_M_does_220 rfl (fun c_220_4 => ?_) (fun c_220_4 => ?_)
          · refine ab_iconst (v := 0) de_M_does_271 rfl ?_
            refine ab_istore (L' := [(13, .int (0 : Int32)), (0, .ref 30), (1, .int (nI c)), (4, .int (nI i)), (6, .int (nI q)), (7, .int (nI m1)), (8, .int (nI i1)), (9, .int (nI p)), (12, .int (nI o)), (14, .int (nI k))]) de_M_does_272 (by decide) rfl ?_
            refine ab_iinc (v := nI (k + 1)) (L' := [(14, .int (nI (k + 1))), (13, .int (0 : Int32)), (0, .ref 30), (1, .int (nI c)), (4, .int (nI i)), (6, .int (nI q)), (7, .int (nI m1)), (8, .int (nI i1)), (9, .int (nI p)), (12, .int (nI o))]) de_M_does_274 9 rfl (by rw [show Int32.ofInt 1 = nI 1 from rfl, ab_add]) (by decide) rfl ?_
            refine ab_goto (tgt := 189) de_M_does_277 rfl ?_
            refine ab_sub (L' := [(0, .ref 30), (1, .int (nI c)), (4, .int (nI i)), (6, .int (nI q)), (7, .int (nI m1)), (8, .int (nI i1)), (9, .int (nI p)), (12, .int (nI o)), (13, .int (0 : Int32)), (14, .int (nI (k + 1)))]) [2, 3, 4, 5, 6, 7, 8, 9, 1, 0] rfl ?_
            have e_ : ab_bz (sp_any (md_jc T c i p q o) (k + 1)) = 0 := (ab_bz_f (by rw [sp_any_s]; rw [(ab_bz0 _).mp c_197_2]; unfold md_jc; rw [sp_b1n c_220_4]; simp)).symm
            have z_ := ih (k + 1) (by omega) (by omega)
            rw [e_] at z_
            exact z_
          · refine ab_aload_n de_M_does_223 0 rfl ?_
            refine ab_get (v := .ref 32) fl_M_17 rfl rfl de_M_does_224 ?_
            refine ab_bipush (v := 12) de_M_does_227 rfl ?_
            refine ab_iload de_M_does_229 9 rfl ?_
            refine ab_imul de_M_does_231 ?_
            refine ab_top (v' := nI (12 * k)) (ab_mul _ _) ?_
            refine ab_iload de_M_does_232 6 rfl ?_
            refine ab_iadd de_M_does_234 ?_
            refine ab_top (v' := nI ((12 * k) + p)) (ab_add _ _) ?_
            refine ab_iald (v := h 32 ((12 * k) + p)) rfl (ab_in (by omega) (by decide)) (ab_hv (ab_tn (n := ((12 * k) + p)) (by omega))) de_M_does_235 ?_
            refine ab_top (v' := nI (T k p)) (hTM k p hk hp) ?_
            refine ab_iload de_M_does_236 7 rfl ?_
            refine ab_ishr de_M_does_238 ?_
            refine ab_top (v' := nI ((T k p) >>> o)) (ab_shr (by omega) (by omega)) ?_
            refine ab_iconst (v := 1) de_M_does_239 rfl ?_
            refine ab_iand de_M_does_240 ?_
            refine ab_top (v' := nI ((T k p).testBit o).toNat) ((ab_and _ 1).trans (congrArg nI (sp_bit1 _ _))) ?_
            refine ab_iconst (v := 1) de_M_does_241 rfl ?_
            refine ab_icmp_ne (tgt := 271) de_M_does_242 rfl (fun c_242_5 => ?_) (fun c_242_5 => ?_)
            · refine ab_iconst (v := 0) de_M_does_271 rfl ?_
              refine ab_istore (L' := [(13, .int (0 : Int32)), (0, .ref 30), (1, .int (nI c)), (4, .int (nI i)), (6, .int (nI q)), (7, .int (nI m1)), (8, .int (nI i1)), (9, .int (nI p)), (12, .int (nI o)), (14, .int (nI k))]) de_M_does_272 (by decide) rfl ?_
              refine ab_iinc (v := nI (k + 1)) (L' := [(14, .int (nI (k + 1))), (13, .int (0 : Int32)), (0, .ref 30), (1, .int (nI c)), (4, .int (nI i)), (6, .int (nI q)), (7, .int (nI m1)), (8, .int (nI i1)), (9, .int (nI p)), (12, .int (nI o))]) de_M_does_274 9 rfl (by rw [show Int32.ofInt 1 = nI 1 from rfl, ab_add]) (by decide) rfl ?_
              refine ab_goto (tgt := 189) de_M_does_277 rfl ?_
              refine ab_sub (L' := [(0, .ref 30), (1, .int (nI c)), (4, .int (nI i)), (6, .int (nI q)), (7, .int (nI m1)), (8, .int (nI i1)), (9, .int (nI p)), (12, .int (nI o)), (13, .int (0 : Int32)), (14, .int (nI (k + 1)))]) [2, 3, 4, 5, 6, 7, 8, 9, 1, 0] rfl ?_
              have e_ : ab_bz (sp_any (md_jc T c i p q o) (k + 1)) = 0 := (ab_bz_f (by rw [sp_any_s]; rw [(ab_bz0 _).mp c_197_2]; unfold md_jc; rw [sp_b1n c_242_5]; simp)).symm
              have z_ := ih (k + 1) (by omega) (by omega)
              rw [e_] at z_
              exact z_
            · refine ab_aload_n de_M_does_245 0 rfl ?_
              refine ab_get (v := .ref 32) fl_M_17 rfl rfl de_M_does_246 ?_
              refine ab_bipush (v := 12) de_M_does_249 rfl ?_
              refine ab_iload de_M_does_251 9 rfl ?_
              refine ab_imul de_M_does_253 ?_
              refine ab_top (v' := nI (12 * k)) (ab_mul _ _) ?_
              refine ab_iload de_M_does_254 7 rfl ?_
              refine ab_iadd de_M_does_256 ?_
              refine ab_top (v' := nI ((12 * k) + o)) (ab_add _ _) ?_
              refine ab_iald (v := h 32 ((12 * k) + o)) rfl (ab_in (by omega) (by decide)) (ab_hv (ab_tn (n := ((12 * k) + o)) (by omega))) de_M_does_257 ?_
              refine ab_top (v' := nI (T k o)) (hTM k o hk ho) ?_
              refine ab_iload de_M_does_258 3 rfl ?_
              refine ab_ishr de_M_does_260 ?_
              refine ab_top (v' := nI ((T k o) >>> q)) (ab_shr (by omega) (by omega)) ?_
              refine ab_iconst (v := 1) de_M_does_261 rfl ?_
              refine ab_iand de_M_does_262 ?_
              refine ab_top (v' := nI ((T k o).testBit q).toNat) ((ab_and _ 1).trans (congrArg nI (sp_bit1 _ _))) ?_
              refine ab_iconst (v := 1) de_M_does_263 rfl ?_
              refine ab_icmp_ne (tgt := 271) de_M_does_264 rfl (fun c_264_6 => ?_) (fun c_264_6 => ?_)
              · refine ab_iconst (v := 0) de_M_does_271 rfl ?_
                refine ab_istore (L' := [(13, .int (0 : Int32)), (0, .ref 30), (1, .int (nI c)), (4, .int (nI i)), (6, .int (nI q)), (7, .int (nI m1)), (8, .int (nI i1)), (9, .int (nI p)), (12, .int (nI o)), (14, .int (nI k))]) de_M_does_272 (by decide) rfl ?_
                refine ab_iinc (v := nI (k + 1)) (L' := [(14, .int (nI (k + 1))), (13, .int (0 : Int32)), (0, .ref 30), (1, .int (nI c)), (4, .int (nI i)), (6, .int (nI q)), (7, .int (nI m1)), (8, .int (nI i1)), (9, .int (nI p)), (12, .int (nI o))]) de_M_does_274 9 rfl (by rw [show Int32.ofInt 1 = nI 1 from rfl, ab_add]) (by decide) rfl ?_
                refine ab_goto (tgt := 189) de_M_does_277 rfl ?_
                refine ab_sub (L' := [(0, .ref 30), (1, .int (nI c)), (4, .int (nI i)), (6, .int (nI q)), (7, .int (nI m1)), (8, .int (nI i1)), (9, .int (nI p)), (12, .int (nI o)), (13, .int (0 : Int32)), (14, .int (nI (k + 1)))]) [2, 3, 4, 5, 6, 7, 8, 9, 1, 0] rfl ?_
                have e_ : ab_bz (sp_any (md_jc T c i p q o) (k + 1)) = 0 := (ab_bz_f (by rw [sp_any_s]; rw [(ab_bz0 _).mp c_197_2]; unfold md_jc; rw [sp_b1n c_264_6]; simp)).symm
                have z_ := ih (k + 1) (by omega) (by omega)
                rw [e_] at z_
                exact z_
              · refine ab_iconst (v := 1) de_M_does_267 rfl ?_
                refine ab_goto (tgt := 272) de_M_does_268 rfl ?_
                refine ab_istore (L' := [(13, .int (1 : Int32)), (0, .ref 30), (1, .int (nI c)), (4, .int (nI i)), (6, .int (nI q)), (7, .int (nI m1)), (8, .int (nI i1)), (9, .int (nI p)), (12, .int (nI o)), (14, .int (nI k))]) de_M_does_272 (by decide) rfl ?_
                refine ab_iinc (v := nI (k + 1)) (L' := [(14, .int (nI (k + 1))), (13, .int (1 : Int32)), (0, .ref 30), (1, .int (nI c)), (4, .int (nI i)), (6, .int (nI q)), (7, .int (nI m1)), (8, .int (nI i1)), (9, .int (nI p)), (12, .int (nI o))]) de_M_does_274 9 rfl (by rw [show Int32.ofInt 1 = nI 1 from rfl, ab_add]) (by decide) rfl ?_
                refine ab_goto (tgt := 189) de_M_does_277 rfl ?_
                refine ab_sub (L' := [(0, .ref 30), (1, .int (nI c)), (4, .int (nI i)), (6, .int (nI q)), (7, .int (nI m1)), (8, .int (nI i1)), (9, .int (nI p)), (12, .int (nI o)), (13, .int (1 : Int32)), (14, .int (nI (k + 1)))]) [2, 3, 4, 5, 6, 7, 8, 9, 1, 0] rfl ?_
                have e_ : ab_bz (sp_any (md_jc T c i p q o) (k + 1)) = 1 := (ab_bz_t (by rw [sp_any_s]; rw [(ab_bz0 _).mp c_197_2]; unfold md_jc; rw [(sp_b1 _).mp c_209_3, (sp_b1 _).mp c_220_4, (sp_b1 _).mp c_242_5, (sp_b1 _).mp c_264_6]; rfl)).symm
                have z_ := ih (k + 1) (by omega) (by omega)
                rw [e_] at z_
                exact z_
set_option maxHeartbeats 1000000 in
set_option maxRecDepth 10000 in
theorem st_M_does_280 (l : Launch) (d : Nat) (nr : Nat) (h : Nat → Nat → Int32) (g : Nat → Nat → Int64) (rr : Nat → Option Nat) {c i p q m1 i1 o : Nat} (h2 : i1 < 4096) (ho : o < 12) {b_ : Bool} {K : Option Value → ab_Me → Prop} (kx : b_ = true → ab_G l none am_M_does (d + 3) 0 0 305 [(0, .ref 30), (7, .int (nI m1)), (8, .int (nI (sp_clr i1 o)))] [] (ab_S nr h g rr) (K)) (ky : b_ = false → ab_G l none am_M_does (d + 3) 0 0 176 [(0, .ref 30), (1, .int (nI c)), (4, .int (nI i)), (6, .int (nI q)), (7, .int (nI m1)), (8, .int (nI i1)), (9, .int (nI p)), (12, .int (nI (o + 1)))] [] (ab_S nr h g rr) (K)) : ab_G l none am_M_does (d + 3) 0 0 280 [(0, .ref 30), (1, .int (nI c)), (4, .int (nI i)), (6, .int (nI q)), (7, .int (nI m1)), (8, .int (nI i1)), (9, .int (nI p)), (12, .int (nI o)), (13, .int (ab_bz b_))] [] (ab_S nr h g rr) (K) := by

  refine ab_iload de_M_does_280 8 rfl ?_
  refine ab_if_eq (tgt := 299) de_M_does_282 rfl (fun c_282_1 => ?_) (fun c_282_1 => ?_)
  · refine ab_iinc (v := nI (o + 1)) (L' := [(12, .int (nI (o + 1))), (0, .ref 30), (1, .int (nI c)), (4, .int (nI i)), (6, .int (nI q)), (7, .int (nI m1)), (8, .int (nI i1)), (9, .int (nI p)), (13, .int (ab_bz b_))]) de_M_does_299 7 rfl (by rw [show Int32.ofInt 1 = nI 1 from rfl, ab_add]) (by decide) rfl ?_
    refine ab_goto (tgt := 176) de_M_does_302 rfl ?_
    refine ab_sub (L' := [(0, .ref 30), (1, .int (nI c)), (4, .int (nI i)), (6, .int (nI q)), (7, .int (nI m1)), (8, .int (nI i1)), (9, .int (nI p)), (12, .int (nI (o + 1)))]) [1, 2, 3, 4, 5, 6, 7, 0] rfl ?_
    exact ky ((ab_bz0 _).mp c_282_1)
  · refine ab_iload de_M_does_285 5 rfl ?_
    refine ab_iconst (v := 1) de_M_does_287 rfl ?_
    refine ab_iload de_M_does_288 7 rfl ?_
    refine ab_ishl de_M_does_290 ?_
    refine ab_top (v' := nI (2 ^ o)) ((ab_shl 1 (by omega)).trans (congrArg nI (Nat.one_shiftLeft _))) ?_
    refine ab_iconst (v := -1) de_M_does_291 rfl ?_
    refine ab_ixor de_M_does_292 ?_
    refine ab_iand de_M_does_293 ?_
    refine ab_top (v' := nI (sp_clr i1 o)) (sp_clrI (by omega) (by omega)) ?_
    refine ab_istore (L' := [(8, .int (nI (sp_clr i1 o))), (0, .ref 30), (1, .int (nI c)), (4, .int (nI i)), (6, .int (nI q)), (7, .int (nI m1)), (9, .int (nI p)), (12, .int (nI o)), (13, .int (ab_bz b_))]) de_M_does_294 (by decide) rfl ?_
    refine ab_goto (tgt := 305) de_M_does_296 rfl ?_
    refine ab_sub (L' := [(0, .ref 30), (7, .int (nI m1)), (8, .int (nI (sp_clr i1 o)))]) [1, 5, 0] rfl ?_
    exact kx ((ab_bz1 _).mp c_282_1)
set_option maxHeartbeats 1000000 in
set_option maxRecDepth 10000 in
theorem lp_M_does_o (l : Launch) (d : Nat) (nr : Nat) (h : Nat → Nat → Int32) (g : Nat → Nat → Int64) (rr : Nat → Option Nat) {T : Nat → Nat → Nat} (hTM : bo_T T h 32) (hO : sp_ok T) {c i p q m1 i1 : Nat} (hc : c < 4096) (hi : i < 4096) (hp : p < 12) (hq : q < 12) (h1 : m1 < 4096) (h2 : i1 < 4096) (hne : ¬ sp_jo T c i p q = 0) {K : Option Value → ab_Me → Prop} (kx : ab_G l none am_M_does (d + 3) 0 0 305 [(0, .ref 30), (7, .int (nI m1)), (8, .int (nI (sp_clr i1 (sp_lo (sp_jo T c i p q)))))] [] (ab_S nr h g rr) (K)) : ∀ (fu_ o : Nat), o ≤ 12 → 12 < o + fu_ → (∀ j, j < o → (sp_jo T c i p q).testBit j = false) → ab_G l none am_M_does (d + 3) 0 0 176 [(0, .ref 30), (1, .int (nI c)), (4, .int (nI i)), (6, .int (nI q)), (7, .int (nI m1)), (8, .int (nI i1)), (9, .int (nI p)), (12, .int (nI o))] [] (ab_S nr h g rr) (K) := by
  intro fu_
  induction fu_ with
  | zero => intro o  h1 h2; omega
  | succ fu_ ih =>
    intro o  hN_ hn_ hf0
    refine ab_iload de_M_does_176 7 rfl ?_
    refine ab_bipush (v := 12) de_M_does_178 rfl ?_
    refine ab_icmp_ge (tgt := 305) de_M_does_180 rfl (fun c_180_1 => ?_) (fun c_180_1 => ?_)
    · have ho := ab_le_of (n := 12) (by decide) (by omega) rfl c_180_1
      exact absurd (sp_ext (sp_jo_lt hi) (by decide) (fun j hj => by rw [hf0 j (by omega), Nat.zero_testBit])) hne
    · have ho := ab_nle_of (n := 12) (by decide) (by omega) rfl c_180_1
      refine ab_iconst (v := 0) de_M_does_183 rfl ?_
      refine ab_istore (L' := [(13, .int (0 : Int32)), (0, .ref 30), (1, .int (nI c)), (4, .int (nI i)), (6, .int (nI q)), (7, .int (nI m1)), (8, .int (nI i1)), (9, .int (nI p)), (12, .int (nI o))]) de_M_does_184 (by decide) rfl ?_
      refine ab_iconst (v := 0) de_M_does_186 rfl ?_
      refine ab_istore (L' := [(14, .int (0 : Int32)), (13, .int (0 : Int32)), (0, .ref 30), (1, .int (nI c)), (4, .int (nI i)), (6, .int (nI q)), (7, .int (nI m1)), (8, .int (nI i1)), (9, .int (nI p)), (12, .int (nI o))]) de_M_does_187 (by decide) rfl ?_
      refine ab_sub (L' := [(0, .ref 30), (1, .int (nI c)), (4, .int (nI i)), (6, .int (nI q)), (7, .int (nI m1)), (8, .int (nI i1)), (9, .int (nI p)), (12, .int (nI o)), (13, .int (ab_bz (sp_any (md_jc T c i p q o) 0))), (14, .int (nI 0))]) [2, 3, 4, 5, 6, 7, 8, 9, 1, 0] rfl ?_
      refine lp_M_does_k l d nr h g rr hTM hO hc hi hp hq h1 h2 ho (st_M_does_280 l d nr h g rr h2 ho (fun hb => ?_) (fun hb => ?_)) 4 0 (by omega) (by omega)
      · rw [md_jc_any hO hq ho] at hb
        rw [← md_lo ho hb hf0]
        exact kx
      · rw [md_jc_any hO hq ho] at hb
        refine ih (o + 1) (by omega) (by omega) (fun j hj => ?_)
        by_cases e_ : j = o
        · rw [e_]; exact hb
        · exact hf0 j (by omega)
set_option maxHeartbeats 1000000 in
set_option maxRecDepth 10000 in
theorem ct_M_does (l : Launch) (d : Nat) (nr : Nat) (h : Nat → Nat → Int32) (g : Nat → Nat → Int64) (rr : Nat → Option Nat) {T : Nat → Nat → Nat} (hTM : bo_T T h 32) (hO : sp_ok T) {c m i : Nat} (hc : c < 4096) (hm : m < 4096) (hi : i < 4096) {x : Nat} (hx : sp_mv x) (hd : sp_dj m i) : ab_C l am_M_does (d + 3) 0 0 [.ref 30, .int (nI c), .int (nI x), .int (nI m), .int (nI i)] (ab_S nr h g rr) (fun (r_ : Option Value) (M' : ab_Me) => r_ = none ∧ M' = (ab_S nr (ab_u2 (ab_u2 h 30 24 (nI (sp_d2 T (sp_lv T c m i) m i x))) 30 25 (nI (sp_d1 T (sp_lv T c m i) m i x))) g rr)) := by
  have hx1_ := hx.1
  have hx2_ := hx.2.1
  have c1_ := sp_clr_lt hm (x / 16)
  have c2_ := sp_clr_lt hi (x / 16)
  have hw_ := md_hw_lt T c m i x
  refine ab_C_of (by decide +kernel) rfl (Nat.le_of_ble_eq_true rfl) ?_
  refine ab_aload_n de_M_does_0 0 rfl ?_
  refine ab_iload_n de_M_does_1 1 rfl ?_
  refine ab_iload_n de_M_does_2 2 rfl ?_
  refine ab_iload_n de_M_does_3 3 rfl ?_
  refine ab_iload de_M_does_4 4 rfl ?_
  refine ab_cV (as := [.int (nI c), .int (nI x), .int (nI m), .int (nI i)]) (st := []) (ct_M_lawful l _ nr h g rr hTM hO hc hm hi (x := x) hx) mo_M_lawful mi_M_lawful ml_M_204 rfl (by decide) rfl rfl rfl (Nat.le_of_ble_eq_true rfl) de_M_does_6 (fun v_ M_ hK_ hl_ hv_ => ?_)
  obtain ⟨rfl, hm_⟩ := hK_
  have hm_ := hm_.symm
  subst hm_
  change ab_G _ _ _ _ _ _ _ [(0, .ref 30), (1, .int (nI c)), (2, .int (nI x)), (3, .int (nI m)), (4, .int (nI i))] [.int (nI (md_hw T c m i x))] (ab_S nr h g rr) _
  refine ab_istore (L' := [(5, .int (nI (md_hw T c m i x))), (0, .ref 30), (1, .int (nI c)), (2, .int (nI x)), (3, .int (nI m)), (4, .int (nI i))]) de_M_does_9 (by decide) rfl ?_
  refine ab_iload_n de_M_does_11 3 rfl ?_
  refine ab_bipush (v := 15) de_M_does_12 rfl ?_
  refine ab_iand de_M_does_14 ?_
  refine ab_top (v' := nI (x % 16)) ((ab_and _ 15).trans (by rw [sp_15m])) ?_
  refine ab_istore (L' := [(6, .int (nI (x % 16))), (5, .int (nI (md_hw T c m i x))), (0, .ref 30), (1, .int (nI c)), (2, .int (nI x)), (3, .int (nI m)), (4, .int (nI i))]) de_M_does_15 (by decide) rfl ?_
  refine ab_iload_n de_M_does_17 5 rfl ?_
  refine ab_istore (L' := [(7, .int (nI m)), (6, .int (nI (x % 16))), (5, .int (nI (md_hw T c m i x))), (0, .ref 30), (1, .int (nI c)), (2, .int (nI x)), (3, .int (nI m)), (4, .int (nI i))]) de_M_does_18 (by decide) rfl ?_
  refine ab_iload de_M_does_20 7 rfl ?_
  refine ab_istore (L' := [(8, .int (nI i)), (7, .int (nI m)), (6, .int (nI (x % 16))), (5, .int (nI (md_hw T c m i x))), (0, .ref 30), (1, .int (nI c)), (2, .int (nI x)), (3, .int (nI m)), (4, .int (nI i))]) de_M_does_22 (by decide) rfl ?_
  refine ab_iload_n de_M_does_24 6 rfl ?_
  refine ab_sipush (v := 240) de_M_does_25 rfl ?_
  refine ab_icmp_lt (tgt := 54) de_M_does_28 rfl (fun c_28_1 => ?_) (fun c_28_1 => ?_)
  · have h240_ : x < 240 := (ab_lt (b := 240) (by omega) (by decide)).mp c_28_1
    have h12_ : x / 16 < 12 := by rcases hx.2.2 with z | z <;> omega
    have h15_ : ¬ x / 16 = 15 := by omega
    refine ab_iload_n de_M_does_54 6 rfl ?_
    refine ab_iconst (v := 4) de_M_does_55 rfl ?_
    refine ab_ishr de_M_does_56 ?_
    refine ab_top (v' := nI (x / 16)) ((ab_shr (k := 4) (by omega) (by decide)).trans (by rw [sp_sr])) ?_
    refine ab_istore (L' := [(9, .int (nI (x / 16))), (8, .int (nI i)), (7, .int (nI m)), (6, .int (nI (x % 16))), (5, .int (nI (md_hw T c m i x))), (0, .ref 30), (1, .int (nI c)), (2, .int (nI x)), (3, .int (nI m)), (4, .int (nI i))]) de_M_does_57 (by decide) rfl ?_
    refine ab_iload de_M_does_59 2 rfl ?_
    refine ab_iload de_M_does_61 0 rfl ?_
    refine ab_ishr de_M_does_63 ?_
    refine ab_top (v' := nI (m >>> (x / 16))) (ab_shr (by omega) (by omega)) ?_
    refine ab_iconst (v := 1) de_M_does_64 rfl ?_
    refine ab_iand de_M_does_65 ?_
    refine ab_top (v' := nI (m.testBit (x / 16)).toNat) ((ab_and _ 1).trans (congrArg nI (sp_bit1 _ _))) ?_
    refine ab_iconst (v := 1) de_M_does_66 rfl ?_
    refine ab_icmp_ne (tgt := 74) de_M_does_67 rfl (fun c_67_2 => ?_) (fun c_67_2 => ?_)
    · refine ab_iconst (v := 0) de_M_does_74 rfl ?_
      refine ab_istore (L' := [(10, .int (0 : Int32)), (9, .int (nI (x / 16))), (8, .int (nI i)), (7, .int (nI m)), (6, .int (nI (x % 16))), (5, .int (nI (md_hw T c m i x))), (0, .ref 30), (1, .int (nI c)), (2, .int (nI x)), (3, .int (nI m)), (4, .int (nI i))]) de_M_does_75 (by decide) rfl ?_
      refine ab_iload de_M_does_77 2 rfl ?_
      refine ab_iload de_M_does_79 1 rfl ?_
      refine ab_ishr de_M_does_81 ?_
      refine ab_top (v' := nI (i >>> (x / 16))) (ab_shr (by omega) (by omega)) ?_
      refine ab_iconst (v := 1) de_M_does_82 rfl ?_
      refine ab_iand de_M_does_83 ?_
      refine ab_top (v' := nI (i.testBit (x / 16)).toNat) ((ab_and _ 1).trans (congrArg nI (sp_bit1 _ _))) ?_
      refine ab_iconst (v := 1) de_M_does_84 rfl ?_
      refine ab_icmp_ne (tgt := 92) de_M_does_85 rfl (fun c_85_3 => ?_) (fun c_85_3 => ?_)
      · refine ab_iconst (v := 0) de_M_does_92 rfl ?_
        refine ab_istore (L' := [(11, .int (0 : Int32)), (10, .int (0 : Int32)), (9, .int (nI (x / 16))), (8, .int (nI i)), (7, .int (nI m)), (6, .int (nI (x % 16))), (5, .int (nI (md_hw T c m i x))), (0, .ref 30), (1, .int (nI c)), (2, .int (nI x)), (3, .int (nI m)), (4, .int (nI i))]) de_M_does_93 (by decide) rfl ?_
        refine ab_iload de_M_does_95 4 rfl ?_
        refine ab_iconst (v := 1) de_M_does_97 rfl ?_
        refine ab_iload de_M_does_98 2 rfl ?_
        refine ab_ishl de_M_does_100 ?_
        refine ab_top (v' := nI (2 ^ (x / 16))) ((ab_shl 1 (by omega)).trans (congrArg nI (Nat.one_shiftLeft _))) ?_
        refine ab_iconst (v := -1) de_M_does_101 rfl ?_
        refine ab_ixor de_M_does_102 ?_
        refine ab_iand de_M_does_103 ?_
        refine ab_top (v' := nI (sp_clr m (x / 16))) (sp_clrI (by omega) (by omega)) ?_
        refine ab_iconst (v := 1) de_M_does_104 rfl ?_
        refine ab_iload de_M_does_105 5 rfl ?_
        refine ab_ishl de_M_does_107 ?_
        refine ab_top (v' := nI (2 ^ (x % 16))) ((ab_shl 1 (by omega)).trans (congrArg nI (Nat.one_shiftLeft _))) ?_
        refine ab_iconst (v := -1) de_M_does_108 rfl ?_
        refine ab_ixor de_M_does_109 ?_
        refine ab_iand de_M_does_110 ?_
        refine ab_top (v' := nI (sp_clr (sp_clr m (x / 16)) (x % 16))) (sp_clrI (by omega) (by omega)) ?_
        refine ab_iload de_M_does_111 1 rfl ?_
        refine ab_if_eq (tgt := 123) de_M_does_113 rfl (fun c_113_4 => ?_) (fun c_113_4 => ?_)
        · refine ab_iconst (v := 0) de_M_does_123 rfl ?_
          refine ab_ior de_M_does_124 ?_
          refine ab_top (v' := nI (sp_m1 m i (x / 16) (x % 16))) ((ab_or _ (0)).trans (congrArg nI (md_m1f hm (sp_b1n c_67_2)))) ?_
          refine ab_istore (L' := [(7, .int (nI (sp_m1 m i (x / 16) (x % 16)))), (11, .int (0 : Int32)), (10, .int (0 : Int32)), (9, .int (nI (x / 16))), (8, .int (nI i)), (6, .int (nI (x % 16))), (5, .int (nI (md_hw T c m i x))), (0, .ref 30), (1, .int (nI c)), (2, .int (nI x)), (3, .int (nI m)), (4, .int (nI i))]) de_M_does_125 (by decide) rfl ?_
          refine ab_iload de_M_does_127 4 rfl ?_
          refine ab_iconst (v := 1) de_M_does_129 rfl ?_
          refine ab_iload de_M_does_130 3 rfl ?_
          refine ab_ishl de_M_does_132 ?_
          refine ab_top (v' := nI (2 ^ (x / 16))) ((ab_shl 1 (by omega)).trans (congrArg nI (Nat.one_shiftLeft _))) ?_
          refine ab_iconst (v := -1) de_M_does_133 rfl ?_
          refine ab_ixor de_M_does_134 ?_
          refine ab_iand de_M_does_135 ?_
          refine ab_top (v' := nI (sp_clr i (x / 16))) (sp_clrI (by omega) (by omega)) ?_
          refine ab_iconst (v := 1) de_M_does_136 rfl ?_
          refine ab_iload de_M_does_137 5 rfl ?_
          refine ab_ishl de_M_does_139 ?_
          refine ab_top (v' := nI (2 ^ (x % 16))) ((ab_shl 1 (by omega)).trans (congrArg nI (Nat.one_shiftLeft _))) ?_
          refine ab_iconst (v := -1) de_M_does_140 rfl ?_
          refine ab_ixor de_M_does_141 ?_
          refine ab_iand de_M_does_142 ?_
          refine ab_top (v' := nI (sp_clr (sp_clr i (x / 16)) (x % 16))) (sp_clrI (by omega) (by omega)) ?_
          refine ab_iload de_M_does_143 1 rfl ?_
          refine ab_if_eq (tgt := 155) de_M_does_145 rfl (fun c_145_5 => ?_) (fun c_145_5 => ?_)
          · refine ab_iconst (v := 0) de_M_does_155 rfl ?_
            refine ab_ior de_M_does_156 ?_
            refine ab_top (v' := nI (sp_i1 m i (x / 16) (x % 16))) ((ab_or _ (0)).trans (congrArg nI (md_i1f hi hd (sp_b1n c_85_3)))) ?_
            refine ab_istore (L' := [(8, .int (nI (sp_i1 m i (x / 16) (x % 16)))), (7, .int (nI (sp_m1 m i (x / 16) (x % 16)))), (11, .int (0 : Int32)), (10, .int (0 : Int32)), (9, .int (nI (x / 16))), (6, .int (nI (x % 16))), (5, .int (nI (md_hw T c m i x))), (0, .ref 30), (1, .int (nI c)), (2, .int (nI x)), (3, .int (nI m)), (4, .int (nI i))]) de_M_does_157 (by decide) rfl ?_
            refine ab_iload de_M_does_159 6 rfl ?_
            refine ab_iconst (v := 2) de_M_does_161 rfl ?_
            refine ab_icmp_ne (tgt := 305) de_M_does_162 rfl (fun c_162_6 => ?_) (fun c_162_6 => ?_)
            · refine ab_sub (L' := [(0, .ref 30), (7, .int (nI (sp_m1 m i (x / 16) (x % 16)))), (8, .int (nI (sp_i1 m i (x / 16) (x % 16))))]) [7, 1, 0] rfl ?_
              exact st_M_does_305 l d nr h g rr (by unfold sp_d1; rw [if_neg h15_]) (by unfold sp_d2; rw [if_neg h15_, if_neg (by rw [md_tk hx h240_, decide_eq_false (fun z => c_162_6 (by rw [z]; rfl))]; simp)])
            · refine ab_iload_n de_M_does_165 8 rfl ?_
              refine ab_sipush (v := 128) de_M_does_166 rfl ?_
              refine ab_iand de_M_does_169 ?_
              refine ab_top (v' := nI (c &&& 128)) (ab_and _ _) ?_
              refine ab_if_eq (tgt := 305) de_M_does_170 rfl (fun c_170_7 => ?_) (fun c_170_7 => ?_)
              · refine ab_sub (L' := [(0, .ref 30), (7, .int (nI (sp_m1 m i (x / 16) (x % 16)))), (8, .int (nI (sp_i1 m i (x / 16) (x % 16))))]) [7, 1, 0] rfl ?_
                exact st_M_does_305 l d nr h g rr (by unfold sp_d1; rw [if_neg h15_]) (by unfold sp_d2; rw [if_neg h15_, if_neg (by rw [md_tk hx h240_, (md_b (c := c) (k := 7) (n := 128) rfl hc).mp c_170_7]; simp)])
              · refine ab_iconst (v := 0) de_M_does_173 rfl ?_
                refine ab_istore (L' := [(12, .int (0 : Int32)), (8, .int (nI (sp_i1 m i (x / 16) (x % 16)))), (7, .int (nI (sp_m1 m i (x / 16) (x % 16)))), (11, .int (0 : Int32)), (10, .int (0 : Int32)), (9, .int (nI (x / 16))), (6, .int (nI (x % 16))), (5, .int (nI (md_hw T c m i x))), (0, .ref 30), (1, .int (nI c)), (2, .int (nI x)), (3, .int (nI m)), (4, .int (nI i))]) de_M_does_174 (by decide) rfl ?_
                refine ab_sub (L' := [(0, .ref 30), (1, .int (nI c)), (4, .int (nI i)), (6, .int (nI (x % 16))), (7, .int (nI (sp_m1 m i (x / 16) (x % 16)))), (8, .int (nI (sp_i1 m i (x / 16) (x % 16)))), (9, .int (nI (x / 16))), (12, .int (nI 0))]) [8, 9, 12, 6, 2, 1, 5, 0] rfl ?_
                have e2_ : md_hw T c m i x = 2 := (ab_inj (b := 2) (by omega) (by decide)).mp c_162_6
                have ef_ : sp_few c m = false := md_few (by rw [e2_]; decide)
                refine lp_M_does_o l d nr h g rr hTM hO hc hi h12_ hx2_ (sp_m1_lt hm hx2_) (sp_i1_lt hi hx2_) (md_jn hO hi hx h240_ e2_) ?_ 13 0 (by omega) (by omega) (fun j hj => absurd hj (Nat.not_lt_zero j))
                exact st_M_does_305 l d nr h g rr (by unfold sp_d1; rw [if_neg h15_]) (by unfold sp_d2; rw [if_neg h15_, if_pos (by rw [md_tk hx h240_, decide_eq_true e2_, md_bt (c := c) (k := 7) (n := 128) rfl hc c_170_7]; rfl), md_jov ef_])
          · exact absurd rfl c_145_5
        · exact absurd rfl c_113_4
      · refine ab_iconst (v := 1) de_M_does_88 rfl ?_
        refine ab_goto (tgt := 93) de_M_does_89 rfl ?_
        refine ab_istore (L' := [(11, .int (1 : Int32)), (10, .int (0 : Int32)), (9, .int (nI (x / 16))), (8, .int (nI i)), (7, .int (nI m)), (6, .int (nI (x % 16))), (5, .int (nI (md_hw T c m i x))), (0, .ref 30), (1, .int (nI c)), (2, .int (nI x)), (3, .int (nI m)), (4, .int (nI i))]) de_M_does_93 (by decide) rfl ?_
        refine ab_iload de_M_does_95 4 rfl ?_
        refine ab_iconst (v := 1) de_M_does_97 rfl ?_
        refine ab_iload de_M_does_98 2 rfl ?_
        refine ab_ishl de_M_does_100 ?_
        refine ab_top (v' := nI (2 ^ (x / 16))) ((ab_shl 1 (by omega)).trans (congrArg nI (Nat.one_shiftLeft _))) ?_
        refine ab_iconst (v := -1) de_M_does_101 rfl ?_
        refine ab_ixor de_M_does_102 ?_
        refine ab_iand de_M_does_103 ?_
        refine ab_top (v' := nI (sp_clr m (x / 16))) (sp_clrI (by omega) (by omega)) ?_
        refine ab_iconst (v := 1) de_M_does_104 rfl ?_
        refine ab_iload de_M_does_105 5 rfl ?_
        refine ab_ishl de_M_does_107 ?_
        refine ab_top (v' := nI (2 ^ (x % 16))) ((ab_shl 1 (by omega)).trans (congrArg nI (Nat.one_shiftLeft _))) ?_
        refine ab_iconst (v := -1) de_M_does_108 rfl ?_
        refine ab_ixor de_M_does_109 ?_
        refine ab_iand de_M_does_110 ?_
        refine ab_top (v' := nI (sp_clr (sp_clr m (x / 16)) (x % 16))) (sp_clrI (by omega) (by omega)) ?_
        refine ab_iload de_M_does_111 1 rfl ?_
        refine ab_if_eq (tgt := 123) de_M_does_113 rfl (fun c_113_8 => ?_) (fun c_113_8 => ?_)
        · refine ab_iconst (v := 0) de_M_does_123 rfl ?_
          refine ab_ior de_M_does_124 ?_
          refine ab_top (v' := nI (sp_m1 m i (x / 16) (x % 16))) ((ab_or _ (0)).trans (congrArg nI (md_m1f hm (sp_b1n c_67_2)))) ?_
          refine ab_istore (L' := [(7, .int (nI (sp_m1 m i (x / 16) (x % 16)))), (11, .int (1 : Int32)), (10, .int (0 : Int32)), (9, .int (nI (x / 16))), (8, .int (nI i)), (6, .int (nI (x % 16))), (5, .int (nI (md_hw T c m i x))), (0, .ref 30), (1, .int (nI c)), (2, .int (nI x)), (3, .int (nI m)), (4, .int (nI i))]) de_M_does_125 (by decide) rfl ?_
          refine ab_iload de_M_does_127 4 rfl ?_
          refine ab_iconst (v := 1) de_M_does_129 rfl ?_
          refine ab_iload de_M_does_130 3 rfl ?_
          refine ab_ishl de_M_does_132 ?_
          refine ab_top (v' := nI (2 ^ (x / 16))) ((ab_shl 1 (by omega)).trans (congrArg nI (Nat.one_shiftLeft _))) ?_
          refine ab_iconst (v := -1) de_M_does_133 rfl ?_
          refine ab_ixor de_M_does_134 ?_
          refine ab_iand de_M_does_135 ?_
          refine ab_top (v' := nI (sp_clr i (x / 16))) (sp_clrI (by omega) (by omega)) ?_
          refine ab_iconst (v := 1) de_M_does_136 rfl ?_
          refine ab_iload de_M_does_137 5 rfl ?_
          refine ab_ishl de_M_does_139 ?_
          refine ab_top (v' := nI (2 ^ (x % 16))) ((ab_shl 1 (by omega)).trans (congrArg nI (Nat.one_shiftLeft _))) ?_
          refine ab_iconst (v := -1) de_M_does_140 rfl ?_
          refine ab_ixor de_M_does_141 ?_
          refine ab_iand de_M_does_142 ?_
          refine ab_top (v' := nI (sp_clr (sp_clr i (x / 16)) (x % 16))) (sp_clrI (by omega) (by omega)) ?_
          refine ab_iload de_M_does_143 1 rfl ?_
          refine ab_if_eq (tgt := 155) de_M_does_145 rfl (fun c_145_9 => ?_) (fun c_145_9 => ?_)
          · exact absurd c_145_9 (by decide)
          · refine ab_iconst (v := 1) de_M_does_148 rfl ?_
            refine ab_iload de_M_does_149 5 rfl ?_
            refine ab_ishl de_M_does_151 ?_
            refine ab_top (v' := nI (2 ^ (x % 16))) ((ab_shl 1 (by omega)).trans (congrArg nI (Nat.one_shiftLeft _))) ?_
            refine ab_goto (tgt := 156) de_M_does_152 rfl ?_
            refine ab_ior de_M_does_156 ?_
            refine ab_top (v' := nI (sp_i1 m i (x / 16) (x % 16))) ((ab_or _ (2 ^ (x % 16))).trans (congrArg nI (md_i1t hi hd ((sp_b1 _).mp c_85_3)))) ?_
            refine ab_istore (L' := [(8, .int (nI (sp_i1 m i (x / 16) (x % 16)))), (7, .int (nI (sp_m1 m i (x / 16) (x % 16)))), (11, .int (1 : Int32)), (10, .int (0 : Int32)), (9, .int (nI (x / 16))), (6, .int (nI (x % 16))), (5, .int (nI (md_hw T c m i x))), (0, .ref 30), (1, .int (nI c)), (2, .int (nI x)), (3, .int (nI m)), (4, .int (nI i))]) de_M_does_157 (by decide) rfl ?_
            refine ab_iload de_M_does_159 6 rfl ?_
            refine ab_iconst (v := 2) de_M_does_161 rfl ?_
            refine ab_icmp_ne (tgt := 305) de_M_does_162 rfl (fun c_162_10 => ?_) (fun c_162_10 => ?_)
            · refine ab_sub (L' := [(0, .ref 30), (7, .int (nI (sp_m1 m i (x / 16) (x % 16)))), (8, .int (nI (sp_i1 m i (x / 16) (x % 16))))]) [7, 1, 0] rfl ?_
              exact st_M_does_305 l d nr h g rr (by unfold sp_d1; rw [if_neg h15_]) (by unfold sp_d2; rw [if_neg h15_, if_neg (by rw [md_tk hx h240_, decide_eq_false (fun z => c_162_10 (by rw [z]; rfl))]; simp)])
            · refine ab_iload_n de_M_does_165 8 rfl ?_
              refine ab_sipush (v := 128) de_M_does_166 rfl ?_
              refine ab_iand de_M_does_169 ?_
              refine ab_top (v' := nI (c &&& 128)) (ab_and _ _) ?_
              refine ab_if_eq (tgt := 305) de_M_does_170 rfl (fun c_170_11 => ?_) (fun c_170_11 => ?_)
              · refine ab_sub (L' := [(0, .ref 30), (7, .int (nI (sp_m1 m i (x / 16) (x % 16)))), (8, .int (nI (sp_i1 m i (x / 16) (x % 16))))]) [7, 1, 0] rfl ?_
                exact st_M_does_305 l d nr h g rr (by unfold sp_d1; rw [if_neg h15_]) (by unfold sp_d2; rw [if_neg h15_, if_neg (by rw [md_tk hx h240_, (md_b (c := c) (k := 7) (n := 128) rfl hc).mp c_170_11]; simp)])
              · refine ab_iconst (v := 0) de_M_does_173 rfl ?_
                refine ab_istore (L' := [(12, .int (0 : Int32)), (8, .int (nI (sp_i1 m i (x / 16) (x % 16)))), (7, .int (nI (sp_m1 m i (x / 16) (x % 16)))), (11, .int (1 : Int32)), (10, .int (0 : Int32)), (9, .int (nI (x / 16))), (6, .int (nI (x % 16))), (5, .int (nI (md_hw T c m i x))), (0, .ref 30), (1, .int (nI c)), (2, .int (nI x)), (3, .int (nI m)), (4, .int (nI i))]) de_M_does_174 (by decide) rfl ?_
                refine ab_sub (L' := [(0, .ref 30), (1, .int (nI c)), (4, .int (nI i)), (6, .int (nI (x % 16))), (7, .int (nI (sp_m1 m i (x / 16) (x % 16)))), (8, .int (nI (sp_i1 m i (x / 16) (x % 16)))), (9, .int (nI (x / 16))), (12, .int (nI 0))]) [8, 9, 12, 6, 2, 1, 5, 0] rfl ?_
                have e2_ : md_hw T c m i x = 2 := (ab_inj (b := 2) (by omega) (by decide)).mp c_162_10
                have ef_ : sp_few c m = false := md_few (by rw [e2_]; decide)
                refine lp_M_does_o l d nr h g rr hTM hO hc hi h12_ hx2_ (sp_m1_lt hm hx2_) (sp_i1_lt hi hx2_) (md_jn hO hi hx h240_ e2_) ?_ 13 0 (by omega) (by omega) (fun j hj => absurd hj (Nat.not_lt_zero j))
                exact st_M_does_305 l d nr h g rr (by unfold sp_d1; rw [if_neg h15_]) (by unfold sp_d2; rw [if_neg h15_, if_pos (by rw [md_tk hx h240_, decide_eq_true e2_, md_bt (c := c) (k := 7) (n := 128) rfl hc c_170_11]; rfl), md_jov ef_])
        · exact absurd rfl c_113_8
    · refine ab_iconst (v := 1) de_M_does_70 rfl ?_
      refine ab_goto (tgt := 75) de_M_does_71 rfl ?_
      refine ab_istore (L' := [(10, .int (1 : Int32)), (9, .int (nI (x / 16))), (8, .int (nI i)), (7, .int (nI m)), (6, .int (nI (x % 16))), (5, .int (nI (md_hw T c m i x))), (0, .ref 30), (1, .int (nI c)), (2, .int (nI x)), (3, .int (nI m)), (4, .int (nI i))]) de_M_does_75 (by decide) rfl ?_
      refine ab_iload de_M_does_77 2 rfl ?_
      refine ab_iload de_M_does_79 1 rfl ?_
      refine ab_ishr de_M_does_81 ?_
      refine ab_top (v' := nI (i >>> (x / 16))) (ab_shr (by omega) (by omega)) ?_
      refine ab_iconst (v := 1) de_M_does_82 rfl ?_
      refine ab_iand de_M_does_83 ?_
      refine ab_top (v' := nI (i.testBit (x / 16)).toNat) ((ab_and _ 1).trans (congrArg nI (sp_bit1 _ _))) ?_
      refine ab_iconst (v := 1) de_M_does_84 rfl ?_
      refine ab_icmp_ne (tgt := 92) de_M_does_85 rfl (fun c_85_12 => ?_) (fun c_85_12 => ?_)
      · refine ab_iconst (v := 0) de_M_does_92 rfl ?_
        refine ab_istore (L' := [(11, .int (0 : Int32)), (10, .int (1 : Int32)), (9, .int (nI (x / 16))), (8, .int (nI i)), (7, .int (nI m)), (6, .int (nI (x % 16))), (5, .int (nI (md_hw T c m i x))), (0, .ref 30), (1, .int (nI c)), (2, .int (nI x)), (3, .int (nI m)), (4, .int (nI i))]) de_M_does_93 (by decide) rfl ?_
        refine ab_iload de_M_does_95 4 rfl ?_
        refine ab_iconst (v := 1) de_M_does_97 rfl ?_
        refine ab_iload de_M_does_98 2 rfl ?_
        refine ab_ishl de_M_does_100 ?_
        refine ab_top (v' := nI (2 ^ (x / 16))) ((ab_shl 1 (by omega)).trans (congrArg nI (Nat.one_shiftLeft _))) ?_
        refine ab_iconst (v := -1) de_M_does_101 rfl ?_
        refine ab_ixor de_M_does_102 ?_
        refine ab_iand de_M_does_103 ?_
        refine ab_top (v' := nI (sp_clr m (x / 16))) (sp_clrI (by omega) (by omega)) ?_
        refine ab_iconst (v := 1) de_M_does_104 rfl ?_
        refine ab_iload de_M_does_105 5 rfl ?_
        refine ab_ishl de_M_does_107 ?_
        refine ab_top (v' := nI (2 ^ (x % 16))) ((ab_shl 1 (by omega)).trans (congrArg nI (Nat.one_shiftLeft _))) ?_
        refine ab_iconst (v := -1) de_M_does_108 rfl ?_
        refine ab_ixor de_M_does_109 ?_
        refine ab_iand de_M_does_110 ?_
        refine ab_top (v' := nI (sp_clr (sp_clr m (x / 16)) (x % 16))) (sp_clrI (by omega) (by omega)) ?_
        refine ab_iload de_M_does_111 1 rfl ?_
        refine ab_if_eq (tgt := 123) de_M_does_113 rfl (fun c_113_13 => ?_) (fun c_113_13 => ?_)
        · exact absurd c_113_13 (by decide)
        · refine ab_iconst (v := 1) de_M_does_116 rfl ?_
          refine ab_iload de_M_does_117 5 rfl ?_
          refine ab_ishl de_M_does_119 ?_
          refine ab_top (v' := nI (2 ^ (x % 16))) ((ab_shl 1 (by omega)).trans (congrArg nI (Nat.one_shiftLeft _))) ?_
          refine ab_goto (tgt := 124) de_M_does_120 rfl ?_
          refine ab_ior de_M_does_124 ?_
          refine ab_top (v' := nI (sp_m1 m i (x / 16) (x % 16))) ((ab_or _ (2 ^ (x % 16))).trans (congrArg nI (md_m1t hm ((sp_b1 _).mp c_67_2)))) ?_
          refine ab_istore (L' := [(7, .int (nI (sp_m1 m i (x / 16) (x % 16)))), (11, .int (0 : Int32)), (10, .int (1 : Int32)), (9, .int (nI (x / 16))), (8, .int (nI i)), (6, .int (nI (x % 16))), (5, .int (nI (md_hw T c m i x))), (0, .ref 30), (1, .int (nI c)), (2, .int (nI x)), (3, .int (nI m)), (4, .int (nI i))]) de_M_does_125 (by decide) rfl ?_
          refine ab_iload de_M_does_127 4 rfl ?_
          refine ab_iconst (v := 1) de_M_does_129 rfl ?_
          refine ab_iload de_M_does_130 3 rfl ?_
          refine ab_ishl de_M_does_132 ?_
          refine ab_top (v' := nI (2 ^ (x / 16))) ((ab_shl 1 (by omega)).trans (congrArg nI (Nat.one_shiftLeft _))) ?_
          refine ab_iconst (v := -1) de_M_does_133 rfl ?_
          refine ab_ixor de_M_does_134 ?_
          refine ab_iand de_M_does_135 ?_
          refine ab_top (v' := nI (sp_clr i (x / 16))) (sp_clrI (by omega) (by omega)) ?_
          refine ab_iconst (v := 1) de_M_does_136 rfl ?_
          refine ab_iload de_M_does_137 5 rfl ?_
          refine ab_ishl de_M_does_139 ?_
          refine ab_top (v' := nI (2 ^ (x % 16))) ((ab_shl 1 (by omega)).trans (congrArg nI (Nat.one_shiftLeft _))) ?_
          refine ab_iconst (v := -1) de_M_does_140 rfl ?_
          refine ab_ixor de_M_does_141 ?_
          refine ab_iand de_M_does_142 ?_
          refine ab_top (v' := nI (sp_clr (sp_clr i (x / 16)) (x % 16))) (sp_clrI (by omega) (by omega)) ?_
          refine ab_iload de_M_does_143 1 rfl ?_
          refine ab_if_eq (tgt := 155) de_M_does_145 rfl (fun c_145_14 => ?_) (fun c_145_14 => ?_)
          · refine ab_iconst (v := 0) de_M_does_155 rfl ?_
            refine ab_ior de_M_does_156 ?_
            refine ab_top (v' := nI (sp_i1 m i (x / 16) (x % 16))) ((ab_or _ (0)).trans (congrArg nI (md_i1f hi hd (sp_b1n c_85_12)))) ?_
            refine ab_istore (L' := [(8, .int (nI (sp_i1 m i (x / 16) (x % 16)))), (7, .int (nI (sp_m1 m i (x / 16) (x % 16)))), (11, .int (0 : Int32)), (10, .int (1 : Int32)), (9, .int (nI (x / 16))), (6, .int (nI (x % 16))), (5, .int (nI (md_hw T c m i x))), (0, .ref 30), (1, .int (nI c)), (2, .int (nI x)), (3, .int (nI m)), (4, .int (nI i))]) de_M_does_157 (by decide) rfl ?_
            refine ab_iload de_M_does_159 6 rfl ?_
            refine ab_iconst (v := 2) de_M_does_161 rfl ?_
            refine ab_icmp_ne (tgt := 305) de_M_does_162 rfl (fun c_162_15 => ?_) (fun c_162_15 => ?_)
            · refine ab_sub (L' := [(0, .ref 30), (7, .int (nI (sp_m1 m i (x / 16) (x % 16)))), (8, .int (nI (sp_i1 m i (x / 16) (x % 16))))]) [7, 1, 0] rfl ?_
              exact st_M_does_305 l d nr h g rr (by unfold sp_d1; rw [if_neg h15_]) (by unfold sp_d2; rw [if_neg h15_, if_neg (by rw [md_tk hx h240_, decide_eq_false (fun z => c_162_15 (by rw [z]; rfl))]; simp)])
            · refine ab_iload_n de_M_does_165 8 rfl ?_
              refine ab_sipush (v := 128) de_M_does_166 rfl ?_
              refine ab_iand de_M_does_169 ?_
              refine ab_top (v' := nI (c &&& 128)) (ab_and _ _) ?_
              refine ab_if_eq (tgt := 305) de_M_does_170 rfl (fun c_170_16 => ?_) (fun c_170_16 => ?_)
              · refine ab_sub (L' := [(0, .ref 30), (7, .int (nI (sp_m1 m i (x / 16) (x % 16)))), (8, .int (nI (sp_i1 m i (x / 16) (x % 16))))]) [7, 1, 0] rfl ?_
                exact st_M_does_305 l d nr h g rr (by unfold sp_d1; rw [if_neg h15_]) (by unfold sp_d2; rw [if_neg h15_, if_neg (by rw [md_tk hx h240_, (md_b (c := c) (k := 7) (n := 128) rfl hc).mp c_170_16]; simp)])
              · refine ab_iconst (v := 0) de_M_does_173 rfl ?_
                refine ab_istore (L' := [(12, .int (0 : Int32)), (8, .int (nI (sp_i1 m i (x / 16) (x % 16)))), (7, .int (nI (sp_m1 m i (x / 16) (x % 16)))), (11, .int (0 : Int32)), (10, .int (1 : Int32)), (9, .int (nI (x / 16))), (6, .int (nI (x % 16))), (5, .int (nI (md_hw T c m i x))), (0, .ref 30), (1, .int (nI c)), (2, .int (nI x)), (3, .int (nI m)), (4, .int (nI i))]) de_M_does_174 (by decide) rfl ?_
                refine ab_sub (L' := [(0, .ref 30), (1, .int (nI c)), (4, .int (nI i)), (6, .int (nI (x % 16))), (7, .int (nI (sp_m1 m i (x / 16) (x % 16)))), (8, .int (nI (sp_i1 m i (x / 16) (x % 16)))), (9, .int (nI (x / 16))), (12, .int (nI 0))]) [8, 9, 12, 6, 2, 1, 5, 0] rfl ?_
                have e2_ : md_hw T c m i x = 2 := (ab_inj (b := 2) (by omega) (by decide)).mp c_162_15
                have ef_ : sp_few c m = false := md_few (by rw [e2_]; decide)
                refine lp_M_does_o l d nr h g rr hTM hO hc hi h12_ hx2_ (sp_m1_lt hm hx2_) (sp_i1_lt hi hx2_) (md_jn hO hi hx h240_ e2_) ?_ 13 0 (by omega) (by omega) (fun j hj => absurd hj (Nat.not_lt_zero j))
                exact st_M_does_305 l d nr h g rr (by unfold sp_d1; rw [if_neg h15_]) (by unfold sp_d2; rw [if_neg h15_, if_pos (by rw [md_tk hx h240_, decide_eq_true e2_, md_bt (c := c) (k := 7) (n := 128) rfl hc c_170_16]; rfl), md_jov ef_])
          · exact absurd rfl c_145_14
      · refine ab_iconst (v := 1) de_M_does_88 rfl ?_
        refine ab_goto (tgt := 93) de_M_does_89 rfl ?_
        refine ab_istore (L' := [(11, .int (1 : Int32)), (10, .int (1 : Int32)), (9, .int (nI (x / 16))), (8, .int (nI i)), (7, .int (nI m)), (6, .int (nI (x % 16))), (5, .int (nI (md_hw T c m i x))), (0, .ref 30), (1, .int (nI c)), (2, .int (nI x)), (3, .int (nI m)), (4, .int (nI i))]) de_M_does_93 (by decide) rfl ?_
        refine ab_iload de_M_does_95 4 rfl ?_
        refine ab_iconst (v := 1) de_M_does_97 rfl ?_
        refine ab_iload de_M_does_98 2 rfl ?_
        refine ab_ishl de_M_does_100 ?_
        refine ab_top (v' := nI (2 ^ (x / 16))) ((ab_shl 1 (by omega)).trans (congrArg nI (Nat.one_shiftLeft _))) ?_
        refine ab_iconst (v := -1) de_M_does_101 rfl ?_
        refine ab_ixor de_M_does_102 ?_
        refine ab_iand de_M_does_103 ?_
        refine ab_top (v' := nI (sp_clr m (x / 16))) (sp_clrI (by omega) (by omega)) ?_
        refine ab_iconst (v := 1) de_M_does_104 rfl ?_
        refine ab_iload de_M_does_105 5 rfl ?_
        refine ab_ishl de_M_does_107 ?_
        refine ab_top (v' := nI (2 ^ (x % 16))) ((ab_shl 1 (by omega)).trans (congrArg nI (Nat.one_shiftLeft _))) ?_
        refine ab_iconst (v := -1) de_M_does_108 rfl ?_
        refine ab_ixor de_M_does_109 ?_
        refine ab_iand de_M_does_110 ?_
        refine ab_top (v' := nI (sp_clr (sp_clr m (x / 16)) (x % 16))) (sp_clrI (by omega) (by omega)) ?_
        refine ab_iload de_M_does_111 1 rfl ?_
        refine ab_if_eq (tgt := 123) de_M_does_113 rfl (fun c_113_17 => ?_) (fun c_113_17 => ?_)
        · exact absurd c_113_17 (by decide)
        · refine ab_iconst (v := 1) de_M_does_116 rfl ?_
          refine ab_iload de_M_does_117 5 rfl ?_
          refine ab_ishl de_M_does_119 ?_
          refine ab_top (v' := nI (2 ^ (x % 16))) ((ab_shl 1 (by omega)).trans (congrArg nI (Nat.one_shiftLeft _))) ?_
          refine ab_goto (tgt := 124) de_M_does_120 rfl ?_
          refine ab_ior de_M_does_124 ?_
          refine ab_top (v' := nI (sp_m1 m i (x / 16) (x % 16))) ((ab_or _ (2 ^ (x % 16))).trans (congrArg nI (md_m1t hm ((sp_b1 _).mp c_67_2)))) ?_
          refine ab_istore (L' := [(7, .int (nI (sp_m1 m i (x / 16) (x % 16)))), (11, .int (1 : Int32)), (10, .int (1 : Int32)), (9, .int (nI (x / 16))), (8, .int (nI i)), (6, .int (nI (x % 16))), (5, .int (nI (md_hw T c m i x))), (0, .ref 30), (1, .int (nI c)), (2, .int (nI x)), (3, .int (nI m)), (4, .int (nI i))]) de_M_does_125 (by decide) rfl ?_
          refine ab_iload de_M_does_127 4 rfl ?_
          refine ab_iconst (v := 1) de_M_does_129 rfl ?_
          refine ab_iload de_M_does_130 3 rfl ?_
          refine ab_ishl de_M_does_132 ?_
          refine ab_top (v' := nI (2 ^ (x / 16))) ((ab_shl 1 (by omega)).trans (congrArg nI (Nat.one_shiftLeft _))) ?_
          refine ab_iconst (v := -1) de_M_does_133 rfl ?_
          refine ab_ixor de_M_does_134 ?_
          refine ab_iand de_M_does_135 ?_
          refine ab_top (v' := nI (sp_clr i (x / 16))) (sp_clrI (by omega) (by omega)) ?_
          refine ab_iconst (v := 1) de_M_does_136 rfl ?_
          refine ab_iload de_M_does_137 5 rfl ?_
          refine ab_ishl de_M_does_139 ?_
          refine ab_top (v' := nI (2 ^ (x % 16))) ((ab_shl 1 (by omega)).trans (congrArg nI (Nat.one_shiftLeft _))) ?_
          refine ab_iconst (v := -1) de_M_does_140 rfl ?_
          refine ab_ixor de_M_does_141 ?_
          refine ab_iand de_M_does_142 ?_
          refine ab_top (v' := nI (sp_clr (sp_clr i (x / 16)) (x % 16))) (sp_clrI (by omega) (by omega)) ?_
          refine ab_iload de_M_does_143 1 rfl ?_
          refine ab_if_eq (tgt := 155) de_M_does_145 rfl (fun c_145_18 => ?_) (fun c_145_18 => ?_)
          · exact absurd c_145_18 (by decide)
          · refine ab_iconst (v := 1) de_M_does_148 rfl ?_
            refine ab_iload de_M_does_149 5 rfl ?_
            refine ab_ishl de_M_does_151 ?_
            refine ab_top (v' := nI (2 ^ (x % 16))) ((ab_shl 1 (by omega)).trans (congrArg nI (Nat.one_shiftLeft _))) ?_
            refine ab_goto (tgt := 156) de_M_does_152 rfl ?_
            refine ab_ior de_M_does_156 ?_
            refine ab_top (v' := nI (sp_i1 m i (x / 16) (x % 16))) ((ab_or _ (2 ^ (x % 16))).trans (congrArg nI (md_i1t hi hd ((sp_b1 _).mp c_85_12)))) ?_
            refine ab_istore (L' := [(8, .int (nI (sp_i1 m i (x / 16) (x % 16)))), (7, .int (nI (sp_m1 m i (x / 16) (x % 16)))), (11, .int (1 : Int32)), (10, .int (1 : Int32)), (9, .int (nI (x / 16))), (6, .int (nI (x % 16))), (5, .int (nI (md_hw T c m i x))), (0, .ref 30), (1, .int (nI c)), (2, .int (nI x)), (3, .int (nI m)), (4, .int (nI i))]) de_M_does_157 (by decide) rfl ?_
            refine ab_iload de_M_does_159 6 rfl ?_
            refine ab_iconst (v := 2) de_M_does_161 rfl ?_
            refine ab_icmp_ne (tgt := 305) de_M_does_162 rfl (fun c_162_19 => ?_) (fun c_162_19 => ?_)
            · refine ab_sub (L' := [(0, .ref 30), (7, .int (nI (sp_m1 m i (x / 16) (x % 16)))), (8, .int (nI (sp_i1 m i (x / 16) (x % 16))))]) [7, 1, 0] rfl ?_
              exact st_M_does_305 l d nr h g rr (by unfold sp_d1; rw [if_neg h15_]) (by unfold sp_d2; rw [if_neg h15_, if_neg (by rw [md_tk hx h240_, decide_eq_false (fun z => c_162_19 (by rw [z]; rfl))]; simp)])
            · refine ab_iload_n de_M_does_165 8 rfl ?_
              refine ab_sipush (v := 128) de_M_does_166 rfl ?_
              refine ab_iand de_M_does_169 ?_
              refine ab_top (v' := nI (c &&& 128)) (ab_and _ _) ?_
              refine ab_if_eq (tgt := 305) de_M_does_170 rfl (fun c_170_20 => ?_) (fun c_170_20 => ?_)
              · refine ab_sub (L' := [(0, .ref 30), (7, .int (nI (sp_m1 m i (x / 16) (x % 16)))), (8, .int (nI (sp_i1 m i (x / 16) (x % 16))))]) [7, 1, 0] rfl ?_
                exact st_M_does_305 l d nr h g rr (by unfold sp_d1; rw [if_neg h15_]) (by unfold sp_d2; rw [if_neg h15_, if_neg (by rw [md_tk hx h240_, (md_b (c := c) (k := 7) (n := 128) rfl hc).mp c_170_20]; simp)])
              · refine ab_iconst (v := 0) de_M_does_173 rfl ?_
                refine ab_istore (L' := [(12, .int (0 : Int32)), (8, .int (nI (sp_i1 m i (x / 16) (x % 16)))), (7, .int (nI (sp_m1 m i (x / 16) (x % 16)))), (11, .int (1 : Int32)), (10, .int (1 : Int32)), (9, .int (nI (x / 16))), (6, .int (nI (x % 16))), (5, .int (nI (md_hw T c m i x))), (0, .ref 30), (1, .int (nI c)), (2, .int (nI x)), (3, .int (nI m)), (4, .int (nI i))]) de_M_does_174 (by decide) rfl ?_
                refine ab_sub (L' := [(0, .ref 30), (1, .int (nI c)), (4, .int (nI i)), (6, .int (nI (x % 16))), (7, .int (nI (sp_m1 m i (x / 16) (x % 16)))), (8, .int (nI (sp_i1 m i (x / 16) (x % 16)))), (9, .int (nI (x / 16))), (12, .int (nI 0))]) [8, 9, 12, 6, 2, 1, 5, 0] rfl ?_
                have e2_ : md_hw T c m i x = 2 := (ab_inj (b := 2) (by omega) (by decide)).mp c_162_19
                have ef_ : sp_few c m = false := md_few (by rw [e2_]; decide)
                refine lp_M_does_o l d nr h g rr hTM hO hc hi h12_ hx2_ (sp_m1_lt hm hx2_) (sp_i1_lt hi hx2_) (md_jn hO hi hx h240_ e2_) ?_ 13 0 (by omega) (by omega) (fun j hj => absurd hj (Nat.not_lt_zero j))
                exact st_M_does_305 l d nr h g rr (by unfold sp_d1; rw [if_neg h15_]) (by unfold sp_d2; rw [if_neg h15_, if_pos (by rw [md_tk hx h240_, decide_eq_true e2_, md_bt (c := c) (k := 7) (n := 128) rfl hc c_170_20]; rfl), md_jov ef_])
  · have h15_ : x / 16 = 15 := by
      have z_ := Nat.le_of_not_lt (fun z => c_28_1 ((ab_lt (b := 240) (by omega) (by decide)).mpr z))
      omega
    refine ab_iload de_M_does_31 1 rfl ?_
    refine ab_iconst (v := 1) de_M_does_33 rfl ?_
    refine ab_iload de_M_does_34 2 rfl ?_
    refine ab_ishl de_M_does_36 ?_
    refine ab_top (v' := nI (2 ^ (x % 16))) ((ab_shl 1 (by omega)).trans (congrArg nI (Nat.one_shiftLeft _))) ?_
    refine ab_ior de_M_does_37 ?_
    refine ab_top (v' := nI (m ||| (2 ^ (x % 16)))) (ab_or _ _) ?_
    refine ab_istore (L' := [(7, .int (nI (m ||| (2 ^ (x % 16))))), (8, .int (nI i)), (6, .int (nI (x % 16))), (5, .int (nI (md_hw T c m i x))), (0, .ref 30), (1, .int (nI c)), (2, .int (nI x)), (3, .int (nI m)), (4, .int (nI i))]) de_M_does_38 (by decide) rfl ?_
    refine ab_iload de_M_does_40 1 rfl ?_
    refine ab_iconst (v := 1) de_M_does_42 rfl ?_
    refine ab_iload de_M_does_43 2 rfl ?_
    refine ab_ishl de_M_does_45 ?_
    refine ab_top (v' := nI (2 ^ (x % 16))) ((ab_shl 1 (by omega)).trans (congrArg nI (Nat.one_shiftLeft _))) ?_
    refine ab_iconst (v := -1) de_M_does_46 rfl ?_
    refine ab_ixor de_M_does_47 ?_
    refine ab_iand de_M_does_48 ?_
    refine ab_top (v' := nI (sp_clr i (x % 16))) (sp_clrI (by omega) (by omega)) ?_
    refine ab_istore (L' := [(8, .int (nI (sp_clr i (x % 16)))), (7, .int (nI (m ||| (2 ^ (x % 16))))), (6, .int (nI (x % 16))), (5, .int (nI (md_hw T c m i x))), (0, .ref 30), (1, .int (nI c)), (2, .int (nI x)), (3, .int (nI m)), (4, .int (nI i))]) de_M_does_49 (by decide) rfl ?_
    refine ab_goto (tgt := 305) de_M_does_51 rfl ?_
    refine ab_sub (L' := [(0, .ref 30), (7, .int (nI (m ||| (2 ^ (x % 16))))), (8, .int (nI (sp_clr i (x % 16))))]) [4, 1, 0] rfl ?_
    exact st_M_does_305 l d nr h g rr (by unfold sp_d1; rw [if_pos h15_]; rfl) (by unfold sp_d2; rw [if_pos h15_])
