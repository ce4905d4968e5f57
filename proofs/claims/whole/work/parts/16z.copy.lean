/-! the reference: copy -/
def md_ca (g : Nat → Nat → Int64) (a k : Nat) : Nat → Nat → Int64 := fun p b => if p = 43 ∧ b < k then g 42 (a + b) else g p b
def md_cb (g : Nat → Nat → Int64) (c k : Nat) : Nat → Nat → Int64 := fun p b => if p = 42 ∧ c ≤ b ∧ b < c + k then g 43 (b - c) else g p b
theorem md_ca_0 (g : Nat → Nat → Int64) (a : Nat) : md_ca g a 0 = g := by
  funext p b
  exact if_neg (fun z => Nat.not_lt_zero _ z.2)
theorem md_cb_0 (g : Nat → Nat → Int64) (c : Nat) : md_cb g c 0 = g := by
  funext p b
  exact if_neg (fun z => by omega)
theorem md_ca_s (g : Nat → Nat → Int64) (a k : Nat) : ab_u2 (md_ca g a k) 43 k (g 42 (a + k)) = md_ca g a (k + 1) := by
  funext p b
  unfold ab_u2 md_ca
  by_cases e : p = 43 ∧ b = k
  · rw [if_pos e, if_pos ⟨e.1, by omega⟩, e.2]
  · rw [if_neg e]
    by_cases c : p = 43 ∧ b < k
    · rw [if_pos c, if_pos ⟨c.1, by omega⟩]
    · rw [if_neg c, if_neg (fun z => by
        rcases Nat.lt_or_ge b k with w | w
        · exact c ⟨z.1, w⟩
        · exact e ⟨z.1, by omega⟩)]
theorem md_cb_s (g : Nat → Nat → Int64) (c k : Nat) : ab_u2 (md_cb g c k) 42 (c + k) (g 43 k) = md_cb g c (k + 1) := by
  funext p b
  unfold ab_u2 md_cb
  by_cases e : p = 42 ∧ b = c + k
  · rw [if_pos e, if_pos ⟨e.1, by omega, by omega⟩, e.2, Nat.add_sub_cancel_left]
  · rw [if_neg e]
    by_cases w : p = 42 ∧ c ≤ b ∧ b < c + k
    · rw [if_pos w, if_pos ⟨w.1, by omega, by omega⟩]
    · rw [if_neg w, if_neg (fun z => by
        rcases Nat.lt_or_ge b (c + k) with v | v
        · exact w ⟨z.1, z.2.1, v⟩
        · exact e ⟨z.1, by omega⟩)]
set_option maxHeartbeats 1000000 in
set_option maxRecDepth 10000 in
theorem lp_M_copy1 (l : Launch) (d : Nat) (nr : Nat) (h : Nat → Nat → Int32) (g : Nat → Nat → Int64) (rr : Nat → Option Nat) {s u x y z : Nat} (hs : s < 8) (hx : x + z ≤ 60) {K : Option Value → ab_Me → Prop} (kx : ab_G l none am_M_copy (d) 0 0 201 [(0, .ref 30), (1, .int (nI s)), (2, .int (nI u)), (3, .int (nI x)), (4, .int (nI y)), (5, .int (nI z))] [] (ab_S nr h (md_ca g ((60 * s) + x) z) rr) (K)) : ∀ (fu_ k : Nat), k ≤ z → z < k + fu_ → ab_G l none am_M_copy (d) 0 0 167 [(0, .ref 30), (1, .int (nI s)), (2, .int (nI u)), (3, .int (nI x)), (4, .int (nI y)), (5, .int (nI z)), (6, .int (nI k))] [] (ab_S nr h (md_ca g ((60 * s) + x) k) rr) (K) := by
  intro fu_
  induction fu_ with
  | zero => intro k  h1 h2; omega
  | succ fu_ ih =>
    intro k  hN_ hn_ 
    refine ab_iload de_M_copy_167 6 rfl ?_
    refine ab_iload de_M_copy_169 5 rfl ?_
    refine ab_icmp_ge (tgt := 201) de_M_copy_171 rfl (fun c_171_1 => ?_) (fun c_171_1 => ?_)
    · have hk := (ab_le (by omega) (by omega)).mp c_171_1
      refine ab_sub (L' := [(0, .ref 30), (1, .int (nI s)), (2, .int (nI u)), (3, .int (nI x)), (4, .int (nI y)), (5, .int (nI z))]) [0, 1, 2, 3, 4, 5] rfl ?_
      rw [show k = z by omega]
      exact kx
    · have hk := Nat.lt_of_not_le (fun z_ => c_171_1 ((ab_le (by omega) (by omega)).mpr z_))
      refine ab_aload_n de_M_copy_174 0 rfl ?_
      refine ab_get (v := .ref 43) fl_M_51 rfl rfl de_M_copy_175 ?_
      refine ab_iload de_M_copy_178 6 rfl ?_
      refine ab_aload_n de_M_copy_180 0 rfl ?_
      refine ab_get (v := .ref 42) fl_M_47 rfl rfl de_M_copy_181 ?_
      refine ab_bipush (v := 60) de_M_copy_184 rfl ?_
      refine ab_iload_n de_M_copy_186 1 rfl ?_
      refine ab_imul de_M_copy_187 ?_
      refine ab_top (v' := nI (60 * s)) (ab_mul _ _) ?_
      refine ab_iload_n de_M_copy_188 3 rfl ?_
      refine ab_iadd de_M_copy_189 ?_
      refine ab_top (v' := nI ((60 * s) + x)) (ab_add _ _) ?_
      refine ab_iload de_M_copy_190 6 rfl ?_
      refine ab_iadd de_M_copy_192 ?_
      refine ab_top (v' := nI (((60 * s) + x) + k)) (ab_add _ _) ?_
      refine ab_lald (v := (md_ca g ((60 * s) + x) k) 42 (((60 * s) + x) + k)) rfl (ab_in (by omega) (by decide)) (ab_gv (ab_tn (n := (((60 * s) + x) + k)) (by omega))) de_M_copy_193 ?_
      refine ab_last (x := 43) rfl (ab_in (by omega) (by decide)) de_M_copy_194 ?_
      rw [(ab_tn (n := k) (by omega))]
      change ab_G _ _ _ _ _ _ _ _ _ (ab_S nr h (ab_u2 (md_ca g ((60 * s) + x) k) 43 k ((md_ca g ((60 * s) + x) k) 42 (((60 * s) + x) + k))) rr) _
      refine ab_gm (g' := md_ca g ((60 * s) + x) (k + 1)) (md_ca_s g ((60 * s) + x) k) ?_
      refine ab_iinc (v := nI (k + 1)) (L' := [(6, .int (nI (k + 1))), (0, .ref 30), (1, .int (nI s)), (2, .int (nI u)), (3, .int (nI x)), (4, .int (nI y)), (5, .int (nI z))]) de_M_copy_195 6 rfl (by rw [show Int32.ofInt 1 = nI 1 from rfl, ab_add]) (by decide) rfl ?_
      refine ab_goto (tgt := 167) de_M_copy_198 rfl ?_
      refine ab_sub (L' := [(0, .ref 30), (1, .int (nI s)), (2, .int (nI u)), (3, .int (nI x)), (4, .int (nI y)), (5, .int (nI z)), (6, .int (nI (k + 1)))]) [1, 2, 3, 4, 5, 6, 0] rfl ?_
      exact ih (k + 1)  (by omega) (by omega) 
set_option maxHeartbeats 1000000 in
set_option maxRecDepth 10000 in
theorem lp_M_copy2 (l : Launch) (d : Nat) (nr : Nat) (h : Nat → Nat → Int32) (g : Nat → Nat → Int64) (rr : Nat → Option Nat) {u y z : Nat} (hu : u < 8) (hy : y + z ≤ 60) : ∀ (fu_ k : Nat), k ≤ z → z < k + fu_ → ab_G l none am_M_copy (d) 0 0 204 [(0, .ref 30), (2, .int (nI u)), (4, .int (nI y)), (5, .int (nI z)), (6, .int (nI k))] [] (ab_S nr h (md_cb g ((60 * u) + y) k) rr) (fun (r_ : Option Value) (M' : ab_Me) => r_ = some (.int (1 : Int32)) ∧ M' = (ab_S nr h (md_cb g ((60 * u) + y) z) rr)) := by
  intro fu_
  induction fu_ with
  | zero => intro k  h1 h2; omega
  | succ fu_ ih =>
    intro k  hN_ hn_ 
    refine ab_iload de_M_copy_204 4 rfl ?_
    refine ab_iload de_M_copy_206 3 rfl ?_
    refine ab_icmp_ge (tgt := 239) de_M_copy_208 rfl (fun c_208_1 => ?_) (fun c_208_1 => ?_)
    · have hk := (ab_le (by omega) (by omega)).mp c_208_1
      refine ab_iconst (v := 1) de_M_copy_239 rfl ?_
      exact ab_ret (v := some (.int (1 : Int32))) de_M_copy_240 ⟨_, rfl⟩ ⟨rfl, by rw [show k = z by omega]⟩
    · have hk := Nat.lt_of_not_le (fun z_ => c_208_1 ((ab_le (by omega) (by omega)).mpr z_))
      refine ab_aload_n de_M_copy_211 0 rfl ?_
      refine ab_get (v := .ref 42) fl_M_47 rfl rfl de_M_copy_212 ?_
      refine ab_bipush (v := 60) de_M_copy_215 rfl ?_
      refine ab_iload_n de_M_copy_217 1 rfl ?_
      refine ab_imul de_M_copy_218 ?_
      refine ab_top (v' := nI (60 * u)) (ab_mul _ _) ?_
      refine ab_iload de_M_copy_219 2 rfl ?_
      refine ab_iadd de_M_copy_221 ?_
      refine ab_top (v' := nI ((60 * u) + y)) (ab_add _ _) ?_
      refine ab_iload de_M_copy_222 4 rfl ?_
      refine ab_iadd de_M_copy_224 ?_
      refine ab_top (v' := nI (((60 * u) + y) + k)) (ab_add _ _) ?_
      refine ab_aload_n de_M_copy_225 0 rfl ?_
      refine ab_get (v := .ref 43) fl_M_51 rfl rfl de_M_copy_226 ?_
      refine ab_iload de_M_copy_229 4 rfl ?_
      refine ab_lald (v := (md_cb g ((60 * u) + y) k) 43 k) rfl (ab_in (by omega) (by decide)) (ab_gv (ab_tn (n := k) (by omega))) de_M_copy_231 ?_
      refine ab_last (x := 42) rfl (ab_in (by omega) (by decide)) de_M_copy_232 ?_
      rw [(ab_tn (n := (((60 * u) + y) + k)) (by omega))]
      change ab_G _ _ _ _ _ _ _ _ _ (ab_S nr h (ab_u2 (md_cb g ((60 * u) + y) k) 42 (((60 * u) + y) + k) ((md_cb g ((60 * u) + y) k) 43 k)) rr) _
      refine ab_gm (g' := md_cb g ((60 * u) + y) (k + 1)) (md_cb_s g ((60 * u) + y) k) ?_
      refine ab_iinc (v := nI (k + 1)) (L' := [(6, .int (nI (k + 1))), (0, .ref 30), (2, .int (nI u)), (4, .int (nI y)), (5, .int (nI z))]) de_M_copy_233 4 rfl (by rw [show Int32.ofInt 1 = nI 1 from rfl, ab_add]) (by decide) rfl ?_
      refine ab_goto (tgt := 204) de_M_copy_236 rfl ?_
      refine ab_sub (L' := [(0, .ref 30), (2, .int (nI u)), (4, .int (nI y)), (5, .int (nI z)), (6, .int (nI (k + 1)))]) [1, 2, 3, 4, 0] rfl ?_
      exact ih (k + 1)  (by omega) (by omega) 
theorem lp_M_copy (l : Launch) (d : Nat) (nr : Nat) (h : Nat → Nat → Int32) (g : Nat → Nat → Int64) (rr : Nat → Option Nat) {s u x y z : Nat} (hs : s < 8) (hu : u < 8) (hx : x + z ≤ 60) (hy : y + z ≤ 60) : ab_G l none am_M_copy (d) 0 0 167 [(0, .ref 30), (1, .int (nI s)), (2, .int (nI u)), (3, .int (nI x)), (4, .int (nI y)), (5, .int (nI z)), (6, .int (nI 0))] [] (ab_S nr h g rr) (fun (r_ : Option Value) (M' : ab_Me) => r_ = some (.int (1 : Int32)) ∧ M' = (ab_S nr h (md_cb (md_ca g ((60 * s) + x) z) ((60 * u) + y) z) rr)) := by
  have z_ := lp_M_copy1 l d nr h g rr (s := s) (u := u) (x := x) (y := y) (z := z) hs hx (K := fun (r_ : Option Value) (M' : ab_Me) => r_ = some (.int (1 : Int32)) ∧ M' = (ab_S nr h (md_cb (md_ca g ((60 * s) + x) z) ((60 * u) + y) z) rr)) ?_ (z + 1) 0 (by omega) (by omega)
  · rw [md_ca_0] at z_
    exact z_
  · refine ab_iconst (v := 0) de_M_copy_201 rfl ?_
    refine ab_istore (L' := [(6, .int (0 : Int32)), (0, .ref 30), (1, .int (nI s)), (2, .int (nI u)), (3, .int (nI x)), (4, .int (nI y)), (5, .int (nI z))]) de_M_copy_202 (by decide) rfl ?_
    refine ab_sub (L' := [(0, .ref 30), (2, .int (nI u)), (4, .int (nI y)), (5, .int (nI z)), (6, .int (nI 0))]) [1, 3, 5, 6, 0] rfl ?_
    have w_ := lp_M_copy2 l d nr h (md_ca g ((60 * s) + x) z) rr (u := u) (y := y) (z := z) hu hy (z + 1) 0 (by omega) (by omega)
    rw [md_cb_0] at w_
    exact w_
def fx_M_copy (nr : Nat) (h : Nat → Nat → Int32) (g : Nat → Nat → Int64) (rr : Nat → Option Nat) (zs : Nat → Nat) (s u x y z : Int32) : Option Value × ab_Me :=
  if (ab_bz (sp_sh s)) = 0 then
    (some (.int (-1 : Int32)), (ab_S nr (ab_u2 h 31 1 (h 31 1 + 1)) g rr))
  else
    if (ab_bz (sp_sh u)) = 0 then
      (some (.int (-1 : Int32)), (ab_S nr (ab_u2 h 31 1 (h 31 1 + 1)) g rr))
    else
      if (h 38 s.toNatClampNeg) = (2 : Int32) then
        (some (.int (-2 : Int32)), (ab_S nr (ab_u2 h 31 2 (h 31 2 + 1)) g rr))
      else
        if (h 38 u.toNatClampNeg) = (2 : Int32) then
          (some (.int (-2 : Int32)), (ab_S nr (ab_u2 h 31 2 (h 31 2 + 1)) g rr))
        else
          if (h 38 s.toNatClampNeg) = (1 : Int32) then
            if (h 38 u.toNatClampNeg) = (1 : Int32) then
              if (h 39 s.toNatClampNeg) = (h 39 u.toNatClampNeg) then
                if (h 38 s.toNatClampNeg) = 0 then
                  (some (.int (-3 : Int32)), (ab_S nr (ab_u2 h 31 3 (h 31 3 + 1)) g rr))
                else
                  if (h 38 u.toNatClampNeg) = 0 then
                    (some (.int (-3 : Int32)), (ab_S nr (ab_u2 h 31 3 (h 31 3 + 1)) g rr))
                  else
                    if 0 ≤ z then
                      if x < 0 then
                        (some (.int (-5 : Int32)), (ab_S nr (ab_u2 h 31 5 (h 31 5 + 1)) g rr))
                      else
                        if y < 0 then
                          (some (.int (-5 : Int32)), (ab_S nr (ab_u2 h 31 5 (h 31 5 + 1)) g rr))
                        else
                          if ((nI (zs s.toNatClampNeg)) - (nI (z.toNatClampNeg))) < x then
                            (some (.int (-5 : Int32)), (ab_S nr (ab_u2 h 31 5 (h 31 5 + 1)) g rr))
                          else
                            if y ≤ ((nI (zs u.toNatClampNeg)) - (nI (z.toNatClampNeg))) then
                              (some (.int (1 : Int32)), (ab_S nr h (md_cb (md_ca g ((60 * s.toNatClampNeg) + x.toNatClampNeg) z.toNatClampNeg) ((60 * u.toNatClampNeg) + y.toNatClampNeg) z.toNatClampNeg) rr))
                            else
                              (some (.int (-5 : Int32)), (ab_S nr (ab_u2 h 31 5 (h 31 5 + 1)) g rr))
                    else
                      (some (.int (-4 : Int32)), (ab_S nr (ab_u2 h 31 4 (h 31 4 + 1)) g rr))
              else
                (some (.int (-2 : Int32)), (ab_S nr (ab_u2 h 31 2 (h 31 2 + 1)) g rr))
            else
              if (h 38 s.toNatClampNeg) = 0 then
                (some (.int (-3 : Int32)), (ab_S nr (ab_u2 h 31 3 (h 31 3 + 1)) g rr))
              else
                if (h 38 u.toNatClampNeg) = 0 then
                  (some (.int (-3 : Int32)), (ab_S nr (ab_u2 h 31 3 (h 31 3 + 1)) g rr))
                else
                  if 0 ≤ z then
                    if x < 0 then
                      (some (.int (-5 : Int32)), (ab_S nr (ab_u2 h 31 5 (h 31 5 + 1)) g rr))
                    else
                      if y < 0 then
                        (some (.int (-5 : Int32)), (ab_S nr (ab_u2 h 31 5 (h 31 5 + 1)) g rr))
                      else
                        if ((nI (zs s.toNatClampNeg)) - (nI (z.toNatClampNeg))) < x then
                          (some (.int (-5 : Int32)), (ab_S nr (ab_u2 h 31 5 (h 31 5 + 1)) g rr))
                        else
                          if y ≤ ((nI (zs u.toNatClampNeg)) - (nI (z.toNatClampNeg))) then
                            (some (.int (1 : Int32)), (ab_S nr h (md_cb (md_ca g ((60 * s.toNatClampNeg) + x.toNatClampNeg) z.toNatClampNeg) ((60 * u.toNatClampNeg) + y.toNatClampNeg) z.toNatClampNeg) rr))
                          else
                            (some (.int (-5 : Int32)), (ab_S nr (ab_u2 h 31 5 (h 31 5 + 1)) g rr))
                  else
                    (some (.int (-4 : Int32)), (ab_S nr (ab_u2 h 31 4 (h 31 4 + 1)) g rr))
          else
            if (h 38 s.toNatClampNeg) = 0 then
              (some (.int (-3 : Int32)), (ab_S nr (ab_u2 h 31 3 (h 31 3 + 1)) g rr))
            else
              if (h 38 u.toNatClampNeg) = 0 then
                (some (.int (-3 : Int32)), (ab_S nr (ab_u2 h 31 3 (h 31 3 + 1)) g rr))
              else
                if 0 ≤ z then
                  if x < 0 then
                    (some (.int (-5 : Int32)), (ab_S nr (ab_u2 h 31 5 (h 31 5 + 1)) g rr))
                  else
                    if y < 0 then
                      (some (.int (-5 : Int32)), (ab_S nr (ab_u2 h 31 5 (h 31 5 + 1)) g rr))
                    else
                      if ((nI (zs s.toNatClampNeg)) - (nI (z.toNatClampNeg))) < x then
                        (some (.int (-5 : Int32)), (ab_S nr (ab_u2 h 31 5 (h 31 5 + 1)) g rr))
                      else
                        if y ≤ ((nI (zs u.toNatClampNeg)) - (nI (z.toNatClampNeg))) then
                          (some (.int (1 : Int32)), (ab_S nr h (md_cb (md_ca g ((60 * s.toNatClampNeg) + x.toNatClampNeg) z.toNatClampNeg) ((60 * u.toNatClampNeg) + y.toNatClampNeg) z.toNatClampNeg) rr))
                        else
                          (some (.int (-5 : Int32)), (ab_S nr (ab_u2 h 31 5 (h 31 5 + 1)) g rr))
                else
                  (some (.int (-4 : Int32)), (ab_S nr (ab_u2 h 31 4 (h 31 4 + 1)) g rr))
set_option maxHeartbeats 1000000 in
set_option maxRecDepth 10000 in
theorem ct_M_copy (l : Launch) (d : Nat) (nr : Nat) (h : Nat → Nat → Int32) (g : Nat → Nat → Int64) (rr : Nat → Option Nat) {zs : Nat → Nat} (hzs : ∀ s, s < 8 → zs s ≤ 60 ∧ h 40 s = nI (zs s)) (s u x y z : Int32) : ab_C l am_M_copy (d + 1) 0 0 [.ref 30, .int s, .int u, .int x, .int y, .int z] (ab_S nr h g rr) (fun r_ M' => (r_, M') = fx_M_copy nr h g rr zs s u x y z) := by
  refine ab_C_of (by decide +kernel) rfl (Nat.le_of_ble_eq_true rfl) ?_
  refine ab_aload_n de_M_copy_0 0 rfl ?_
  refine ab_iload_n de_M_copy_1 1 rfl ?_
  refine ab_cV (as := [.int s]) (st := []) (ct_M_isShelf l _ (ab_S nr h g rr) (s)) mo_M_isShelf mi_M_isShelf ml_M_90 rfl (by decide) rfl rfl rfl (Nat.le_of_ble_eq_true rfl) de_M_copy_2 (fun v_ M_ hK_ hl_ hv_ => ?_)
  obtain ⟨rfl, hm_⟩ := hK_
  have hm_ := hm_.symm
  subst hm_
  change ab_G _ _ _ _ _ _ _ [(0, .ref 30), (1, .int s), (2, .int u), (3, .int x), (4, .int y), (5, .int z)] [.int (ab_bz (sp_sh s))] (ab_S nr h g rr) _
  refine ab_if_eq (tgt := 16) de_M_copy_5 rfl (fun c_5_1 => ?_) (fun c_5_1 => ?_)
  · refine ab_aload_n de_M_copy_16 0 rfl ?_
    refine ab_iconst (v := -1) de_M_copy_17 rfl ?_
    refine ab_cV (as := [.int (-1 : Int32)]) (st := []) (ct_M_no l _ nr h g rr (r := (-1 : Int32)) (k := 1) (by decide) (by decide)) mo_M_no mi_M_no ml_M_94 rfl (by decide) rfl rfl rfl (Nat.le_of_ble_eq_true rfl) de_M_copy_18 (fun v_ M_ hK_ hl_ hv_ => ?_)
    obtain ⟨rfl, hm_⟩ := hK_
    have hm_ := hm_.symm
    subst hm_
    change ab_G _ _ _ _ _ _ _ [(0, .ref 30), (1, .int s), (2, .int u), (3, .int x), (4, .int y), (5, .int z)] [.int (-1 : Int32)] (ab_S nr (ab_u2 h 31 1 (h 31 1 + 1)) g rr) _
    exact ab_ret (v := some (.int (-1 : Int32))) de_M_copy_21 ⟨_, rfl⟩ (by unfold fx_M_copy; rw [if_pos c_5_1])
  · obtain ⟨sn, hsn, rfl⟩ := sp_sh_n c_5_1
    refine ab_aload_n de_M_copy_8 0 rfl ?_
    refine ab_iload_n de_M_copy_9 2 rfl ?_
    refine ab_cV (as := [.int u]) (st := []) (ct_M_isShelf l _ (ab_S nr h g rr) (u)) mo_M_isShelf mi_M_isShelf ml_M_90 rfl (by decide) rfl rfl rfl (Nat.le_of_ble_eq_true rfl) de_M_copy_10 (fun v_ M_ hK_ hl_ hv_ => ?_)
    obtain ⟨rfl, hm_⟩ := hK_
    have hm_ := hm_.symm
    subst hm_
    change ab_G _ _ _ _ _ _ _ [(0, .ref 30), (1, .int (nI sn)), (2, .int u), (3, .int x), (4, .int y), (5, .int z)] [.int (ab_bz (sp_sh u))] (ab_S nr h g rr) _
    refine ab_if_ne (tgt := 22) de_M_copy_13 rfl (fun c_13_2 => ?_) (fun c_13_2 => ?_)
    · obtain ⟨un, hun, rfl⟩ := sp_sh_n c_13_2
      refine ab_aload_n de_M_copy_22 0 rfl ?_
      refine ab_get (v := .ref 38) fl_M_35 rfl rfl de_M_copy_23 ?_
      refine ab_iload_n de_M_copy_26 1 rfl ?_
      refine ab_iald (v := h 38 sn) rfl (ab_in (by omega) (by decide)) (ab_hv (ab_tn (n := sn) (by omega))) de_M_copy_27 ?_
      refine ab_iconst (v := 2) de_M_copy_28 rfl ?_
      refine ab_icmp_eq (tgt := 77) de_M_copy_29 rfl (fun c_29_3 => ?_) (fun c_29_3 => ?_)
      · refine ab_aload_n de_M_copy_77 0 rfl ?_
        refine ab_bipush (v := -2) de_M_copy_78 rfl ?_
        refine ab_cV (as := [.int (-2 : Int32)]) (st := []) (ct_M_no l _ nr h g rr (r := (-2 : Int32)) (k := 2) (by decide) (by decide)) mo_M_no mi_M_no ml_M_94 rfl (by decide) rfl rfl rfl (Nat.le_of_ble_eq_true rfl) de_M_copy_80 (fun v_ M_ hK_ hl_ hv_ => ?_)
        obtain ⟨rfl, hm_⟩ := hK_
        have hm_ := hm_.symm
        subst hm_
        change ab_G _ _ _ _ _ _ _ [(0, .ref 30), (1, .int (nI sn)), (2, .int (nI un)), (3, .int x), (4, .int y), (5, .int z)] [.int (-2 : Int32)] (ab_S nr (ab_u2 h 31 2 (h 31 2 + 1)) g rr) _
        exact ab_ret (v := some (.int (-2 : Int32))) de_M_copy_83 ⟨_, rfl⟩ (by unfold fx_M_copy; try simp only [ab_tn (show sn < 2 ^ 31 by omega), ab_tn (show un < 2 ^ 31 by omega)]; rw [if_neg c_5_1, if_neg c_13_2, if_pos c_29_3])
      · refine ab_aload_n de_M_copy_32 0 rfl ?_
        refine ab_get (v := .ref 38) fl_M_35 rfl rfl de_M_copy_33 ?_
        refine ab_iload_n de_M_copy_36 2 rfl ?_
        refine ab_iald (v := h 38 un) rfl (ab_in (by omega) (by decide)) (ab_hv (ab_tn (n := un) (by omega))) de_M_copy_37 ?_
        refine ab_iconst (v := 2) de_M_copy_38 rfl ?_
        refine ab_icmp_eq (tgt := 77) de_M_copy_39 rfl (fun c_39_4 => ?_) (fun c_39_4 => ?_)
        · refine ab_aload_n de_M_copy_77 0 rfl ?_
          refine ab_bipush (v := -2) de_M_copy_78 rfl ?_
          refine ab_cV (as := [.int (-2 : Int32)]) (st := []) (ct_M_no l _ nr h g rr (r := (-2 : Int32)) (k := 2) (by decide) (by decide)) mo_M_no mi_M_no ml_M_94 rfl (by decide) rfl rfl rfl (Nat.le_of_ble_eq_true rfl) de_M_copy_80 (fun v_ M_ hK_ hl_ hv_ => ?_)
          obtain ⟨rfl, hm_⟩ := hK_
          have hm_ := hm_.symm
          subst hm_
          change ab_G _ _ _ _ _ _ _ [(0, .ref 30), (1, .int (nI sn)), (2, .int (nI un)), (3, .int x), (4, .int y), (5, .int z)] [.int (-2 : Int32)] (ab_S nr (ab_u2 h 31 2 (h 31 2 + 1)) g rr) _
          exact ab_ret (v := some (.int (-2 : Int32))) de_M_copy_83 ⟨_, rfl⟩ (by unfold fx_M_copy; try simp only [ab_tn (show sn < 2 ^ 31 by omega), ab_tn (show un < 2 ^ 31 by omega)]; rw [if_neg c_5_1, if_neg c_13_2, if_neg c_29_3, if_pos c_39_4])
        · refine ab_aload_n de_M_copy_42 0 rfl ?_
          refine ab_get (v := .ref 38) fl_M_35 rfl rfl de_M_copy_43 ?_
          refine ab_iload_n de_M_copy_46 1 rfl ?_
          refine ab_iald (v := h 38 sn) rfl (ab_in (by omega) (by decide)) (ab_hv (ab_tn (n := sn) (by omega))) de_M_copy_47 ?_
          refine ab_iconst (v := 1) de_M_copy_48 rfl ?_
          refine ab_icmp_ne (tgt := 84) de_M_copy_49 rfl (fun c_49_5 => ?_) (fun c_49_5 => ?_)
          · refine ab_aload_n de_M_copy_84 0 rfl ?_
            refine ab_get (v := .ref 38) fl_M_35 rfl rfl de_M_copy_85 ?_
            refine ab_iload_n de_M_copy_88 1 rfl ?_
            refine ab_iald (v := h 38 sn) rfl (ab_in (by omega) (by decide)) (ab_hv (ab_tn (n := sn) (by omega))) de_M_copy_89 ?_
            refine ab_if_eq (tgt := 102) de_M_copy_90 rfl (fun c_90_6 => ?_) (fun c_90_6 => ?_)
            · refine ab_aload_n de_M_copy_102 0 rfl ?_
              refine ab_bipush (v := -3) de_M_copy_103 rfl ?_
              refine ab_cV (as := [.int (-3 : Int32)]) (st := []) (ct_M_no l _ nr h g rr (r := (-3 : Int32)) (k := 3) (by decide) (by decide)) mo_M_no mi_M_no ml_M_94 rfl (by decide) rfl rfl rfl (Nat.le_of_ble_eq_true rfl) de_M_copy_105 (fun v_ M_ hK_ hl_ hv_ => ?_)
              obtain ⟨rfl, hm_⟩ := hK_
              have hm_ := hm_.symm
              subst hm_
              change ab_G _ _ _ _ _ _ _ [(0, .ref 30), (1, .int (nI sn)), (2, .int (nI un)), (3, .int x), (4, .int y), (5, .int z)] [.int (-3 : Int32)] (ab_S nr (ab_u2 h 31 3 (h 31 3 + 1)) g rr) _
              exact ab_ret (v := some (.int (-3 : Int32))) de_M_copy_108 ⟨_, rfl⟩ (by unfold fx_M_copy; try simp only [ab_tn (show sn < 2 ^ 31 by omega), ab_tn (show un < 2 ^ 31 by omega)]; rw [if_neg c_5_1, if_neg c_13_2, if_neg c_29_3, if_neg c_39_4, if_neg c_49_5, if_pos c_90_6])
            · refine ab_aload_n de_M_copy_93 0 rfl ?_
              refine ab_get (v := .ref 38) fl_M_35 rfl rfl de_M_copy_94 ?_
              refine ab_iload_n de_M_copy_97 2 rfl ?_
              refine ab_iald (v := h 38 un) rfl (ab_in (by omega) (by decide)) (ab_hv (ab_tn (n := un) (by omega))) de_M_copy_98 ?_
              refine ab_if_ne (tgt := 109) de_M_copy_99 rfl (fun c_99_7 => ?_) (fun c_99_7 => ?_)
              · refine ab_iload de_M_copy_109 5 rfl ?_
                refine ab_if_ge (tgt := 121) de_M_copy_111 rfl (fun c_111_8 => ?_) (fun c_111_8 => ?_)
                · obtain ⟨zn, hzn, rfl⟩ := nn_n (Int32.not_lt.mpr c_111_8)
                  refine ab_iload_n de_M_copy_121 3 rfl ?_
                  refine ab_if_lt (tgt := 157) de_M_copy_122 rfl (fun c_122_9 => ?_) (fun c_122_9 => ?_)
                  · refine ab_aload_n de_M_copy_157 0 rfl ?_
                    refine ab_bipush (v := -5) de_M_copy_158 rfl ?_
                    refine ab_cV (as := [.int (-5 : Int32)]) (st := []) (ct_M_no l _ nr h g rr (r := (-5 : Int32)) (k := 5) (by decide) (by decide)) mo_M_no mi_M_no ml_M_94 rfl (by decide) rfl rfl rfl (Nat.le_of_ble_eq_true rfl) de_M_copy_160 (fun v_ M_ hK_ hl_ hv_ => ?_)
                    obtain ⟨rfl, hm_⟩ := hK_
                    have hm_ := hm_.symm
                    subst hm_
                    change ab_G _ _ _ _ _ _ _ [(0, .ref 30), (1, .int (nI sn)), (2, .int (nI un)), (3, .int x), (4, .int y), (5, .int (nI zn))] [.int (-5 : Int32)] (ab_S nr (ab_u2 h 31 5 (h 31 5 + 1)) g rr) _
                    exact ab_ret (v := some (.int (-5 : Int32))) de_M_copy_163 ⟨_, rfl⟩ (by unfold fx_M_copy; try simp only [ab_tn (show sn < 2 ^ 31 by omega), ab_tn (show un < 2 ^ 31 by omega), ab_tn (show zn < 2 ^ 31 by omega)]; rw [if_neg c_5_1, if_neg c_13_2, if_neg c_29_3, if_neg c_39_4, if_neg c_49_5, if_neg c_90_6, if_neg c_99_7, if_pos c_111_8, if_pos c_122_9])
                  · have c122_ := c_122_9
                    refine ab_iload de_M_copy_125 4 rfl ?_
                    refine ab_if_lt (tgt := 157) de_M_copy_127 rfl (fun c_127_10 => ?_) (fun c_127_10 => ?_)
                    · refine ab_aload_n de_M_copy_157 0 rfl ?_
                      refine ab_bipush (v := -5) de_M_copy_158 rfl ?_
                      refine ab_cV (as := [.int (-5 : Int32)]) (st := []) (ct_M_no l _ nr h g rr (r := (-5 : Int32)) (k := 5) (by decide) (by decide)) mo_M_no mi_M_no ml_M_94 rfl (by decide) rfl rfl rfl (Nat.le_of_ble_eq_true rfl) de_M_copy_160 (fun v_ M_ hK_ hl_ hv_ => ?_)
                      obtain ⟨rfl, hm_⟩ := hK_
                      have hm_ := hm_.symm
                      subst hm_
                      change ab_G _ _ _ _ _ _ _ [(0, .ref 30), (1, .int (nI sn)), (2, .int (nI un)), (3, .int x), (4, .int y), (5, .int (nI zn))] [.int (-5 : Int32)] (ab_S nr (ab_u2 h 31 5 (h 31 5 + 1)) g rr) _
                      exact ab_ret (v := some (.int (-5 : Int32))) de_M_copy_163 ⟨_, rfl⟩ (by unfold fx_M_copy; try simp only [ab_tn (show sn < 2 ^ 31 by omega), ab_tn (show un < 2 ^ 31 by omega), ab_tn (show zn < 2 ^ 31 by omega)]; rw [if_neg c_5_1, if_neg c_13_2, if_neg c_29_3, if_neg c_39_4, if_neg c_49_5, if_neg c_90_6, if_neg c_99_7, if_pos c_111_8, if_neg c_122_9, if_pos c_127_10])
                    · have c127_ := c_127_10
                      refine ab_iload_n de_M_copy_130 3 rfl ?_
                      refine ab_aload_n de_M_copy_131 0 rfl ?_
                      refine ab_get (v := .ref 40) fl_M_41 rfl rfl de_M_copy_132 ?_
                      refine ab_iload_n de_M_copy_135 1 rfl ?_
                      refine ab_iald (v := h 40 sn) rfl (ab_in (by omega) (by decide)) (ab_hv (ab_tn (n := sn) (by omega))) de_M_copy_136 ?_
                      refine ab_top (v' := nI (zs sn)) ((hzs sn (by omega)).2) ?_
                      refine ab_iload de_M_copy_137 5 rfl ?_
                      refine ab_isub de_M_copy_139 ?_
                      refine ab_icmp_gt (tgt := 157) de_M_copy_140 rfl (fun c_140_11 => ?_) (fun c_140_11 => ?_)
                      · refine ab_aload_n de_M_copy_157 0 rfl ?_
                        refine ab_bipush (v := -5) de_M_copy_158 rfl ?_
                        refine ab_cV (as := [.int (-5 : Int32)]) (st := []) (ct_M_no l _ nr h g rr (r := (-5 : Int32)) (k := 5) (by decide) (by decide)) mo_M_no mi_M_no ml_M_94 rfl (by decide) rfl rfl rfl (Nat.le_of_ble_eq_true rfl) de_M_copy_160 (fun v_ M_ hK_ hl_ hv_ => ?_)
                        obtain ⟨rfl, hm_⟩ := hK_
                        have hm_ := hm_.symm
                        subst hm_
                        change ab_G _ _ _ _ _ _ _ [(0, .ref 30), (1, .int (nI sn)), (2, .int (nI un)), (3, .int x), (4, .int y), (5, .int (nI zn))] [.int (-5 : Int32)] (ab_S nr (ab_u2 h 31 5 (h 31 5 + 1)) g rr) _
                        exact ab_ret (v := some (.int (-5 : Int32))) de_M_copy_163 ⟨_, rfl⟩ (by unfold fx_M_copy; try simp only [ab_tn (show sn < 2 ^ 31 by omega), ab_tn (show un < 2 ^ 31 by omega), ab_tn (show zn < 2 ^ 31 by omega)]; rw [if_neg c_5_1, if_neg c_13_2, if_neg c_29_3, if_neg c_39_4, if_neg c_49_5, if_neg c_90_6, if_neg c_99_7, if_pos c_111_8, if_neg c_122_9, if_neg c_127_10, if_pos c_140_11])
                      · have z1_ := (hzs sn (by omega)).1
                        obtain ⟨xn, hxn, rfl⟩ := cp_n z1_ (by omega) c122_ c_140_11
                        refine ab_iload de_M_copy_143 4 rfl ?_
                        refine ab_aload_n de_M_copy_145 0 rfl ?_
                        refine ab_get (v := .ref 40) fl_M_41 rfl rfl de_M_copy_146 ?_
                        refine ab_iload_n de_M_copy_149 2 rfl ?_
                        refine ab_iald (v := h 40 un) rfl (ab_in (by omega) (by decide)) (ab_hv (ab_tn (n := un) (by omega))) de_M_copy_150 ?_
                        refine ab_top (v' := nI (zs un)) ((hzs un (by omega)).2) ?_
                        refine ab_iload de_M_copy_151 5 rfl ?_
                        refine ab_isub de_M_copy_153 ?_
                        refine ab_icmp_le (tgt := 164) de_M_copy_154 rfl (fun c_154_12 => ?_) (fun c_154_12 => ?_)
                        · have z2_ := (hzs un (by omega)).1
                          obtain ⟨yn, hyn, rfl⟩ := cp_n z2_ (by omega) c127_ (Int32.not_lt.mpr c_154_12)
                          refine ab_iconst (v := 0) de_M_copy_164 rfl ?_
                          refine ab_istore (L' := [(6, .int (0 : Int32)), (0, .ref 30), (1, .int (nI sn)), (2, .int (nI un)), (3, .int (nI xn)), (4, .int (nI yn)), (5, .int (nI zn))]) de_M_copy_165 (by decide) rfl ?_
                          refine ab_sub (L' := [(0, .ref 30), (1, .int (nI sn)), (2, .int (nI un)), (3, .int (nI xn)), (4, .int (nI yn)), (5, .int (nI zn)), (6, .int (nI 0))]) [1, 2, 3, 4, 5, 6, 0] rfl ?_
                          refine ab_wk (fun r_ M_ q => ?_) (lp_M_copy l (d + 1) nr h g rr (s := sn) (u := un) (x := xn) (y := yn) (z := zn) (by omega) (by omega) (by omega) (by omega))
                          unfold fx_M_copy
                          simp only [ab_tn (show sn < 2 ^ 31 by omega), ab_tn (show un < 2 ^ 31 by omega), ab_tn (show xn < 2 ^ 31 by omega), ab_tn (show yn < 2 ^ 31 by omega), ab_tn (show zn < 2 ^ 31 by omega)]
                          rw [if_neg c_5_1, if_neg c_13_2, if_neg c_29_3, if_neg c_39_4, if_neg c_49_5, if_neg c_90_6, if_neg c_99_7, if_pos c_111_8, if_neg c_122_9, if_neg c_127_10, if_neg c_140_11, if_pos c_154_12, q.1, q.2]
                        · refine ab_aload_n de_M_copy_157 0 rfl ?_
                          refine ab_bipush (v := -5) de_M_copy_158 rfl ?_
                          refine ab_cV (as := [.int (-5 : Int32)]) (st := []) (ct_M_no l _ nr h g rr (r := (-5 : Int32)) (k := 5) (by decide) (by decide)) mo_M_no mi_M_no ml_M_94 rfl (by decide) rfl rfl rfl (Nat.le_of_ble_eq_true rfl) de_M_copy_160 (fun v_ M_ hK_ hl_ hv_ => ?_)
                          obtain ⟨rfl, hm_⟩ := hK_
                          have hm_ := hm_.symm
                          subst hm_
                          change ab_G _ _ _ _ _ _ _ [(0, .ref 30), (1, .int (nI sn)), (2, .int (nI un)), (3, .int (nI xn)), (4, .int y), (5, .int (nI zn))] [.int (-5 : Int32)] (ab_S nr (ab_u2 h 31 5 (h 31 5 + 1)) g rr) _
                          exact ab_ret (v := some (.int (-5 : Int32))) de_M_copy_163 ⟨_, rfl⟩ (by unfold fx_M_copy; try simp only [ab_tn (show sn < 2 ^ 31 by omega), ab_tn (show un < 2 ^ 31 by omega), ab_tn (show zn < 2 ^ 31 by omega), ab_tn (show xn < 2 ^ 31 by omega)]; rw [if_neg c_5_1, if_neg c_13_2, if_neg c_29_3, if_neg c_39_4, if_neg c_49_5, if_neg c_90_6, if_neg c_99_7, if_pos c_111_8, if_neg c_122_9, if_neg c_127_10, if_neg c_140_11, if_neg c_154_12])
                · refine ab_aload_n de_M_copy_114 0 rfl ?_
                  refine ab_bipush (v := -4) de_M_copy_115 rfl ?_
                  refine ab_cV (as := [.int (-4 : Int32)]) (st := []) (ct_M_no l _ nr h g rr (r := (-4 : Int32)) (k := 4) (by decide) (by decide)) mo_M_no mi_M_no ml_M_94 rfl (by decide) rfl rfl rfl (Nat.le_of_ble_eq_true rfl) de_M_copy_117 (fun v_ M_ hK_ hl_ hv_ => ?_)
                  obtain ⟨rfl, hm_⟩ := hK_
                  have hm_ := hm_.symm
                  subst hm_
                  change ab_G _ _ _ _ _ _ _ [(0, .ref 30), (1, .int (nI sn)), (2, .int (nI un)), (3, .int x), (4, .int y), (5, .int z)] [.int (-4 : Int32)] (ab_S nr (ab_u2 h 31 4 (h 31 4 + 1)) g rr) _
                  exact ab_ret (v := some (.int (-4 : Int32))) de_M_copy_120 ⟨_, rfl⟩ (by unfold fx_M_copy; try simp only [ab_tn (show sn < 2 ^ 31 by omega), ab_tn (show un < 2 ^ 31 by omega)]; rw [if_neg c_5_1, if_neg c_13_2, if_neg c_29_3, if_neg c_39_4, if_neg c_49_5, if_neg c_90_6, if_neg c_99_7, if_neg c_111_8])
              · refine ab_aload_n de_M_copy_102 0 rfl ?_
                refine ab_bipush (v := -3) de_M_copy_103 rfl ?_
                refine ab_cV (as := [.int (-3 : Int32)]) (st := []) (ct_M_no l _ nr h g rr (r := (-3 : Int32)) (k := 3) (by decide) (by decide)) mo_M_no mi_M_no ml_M_94 rfl (by decide) rfl rfl rfl (Nat.le_of_ble_eq_true rfl) de_M_copy_105 (fun v_ M_ hK_ hl_ hv_ => ?_)
                obtain ⟨rfl, hm_⟩ := hK_
                have hm_ := hm_.symm
                subst hm_
                change ab_G _ _ _ _ _ _ _ [(0, .ref 30), (1, .int (nI sn)), (2, .int (nI un)), (3, .int x), (4, .int y), (5, .int z)] [.int (-3 : Int32)] (ab_S nr (ab_u2 h 31 3 (h 31 3 + 1)) g rr) _
                exact ab_ret (v := some (.int (-3 : Int32))) de_M_copy_108 ⟨_, rfl⟩ (by unfold fx_M_copy; try simp only [ab_tn (show sn < 2 ^ 31 by omega), ab_tn (show un < 2 ^ 31 by omega)]; rw [if_neg c_5_1, if_neg c_13_2, if_neg c_29_3, if_neg c_39_4, if_neg c_49_5, if_neg c_90_6, if_pos c_99_7])
          · refine ab_aload_n de_M_copy_52 0 rfl ?_
            refine ab_get (v := .ref 38) fl_M_35 rfl rfl de_M_copy_53 ?_
            refine ab_iload_n de_M_copy_56 2 rfl ?_
            refine ab_iald (v := h 38 un) rfl (ab_in (by omega) (by decide)) (ab_hv (ab_tn (n := un) (by omega))) de_M_copy_57 ?_
            refine ab_iconst (v := 1) de_M_copy_58 rfl ?_
            refine ab_icmp_ne (tgt := 84) de_M_copy_59 rfl (fun c_59_13 => ?_) (fun c_59_13 => ?_)
            · refine ab_aload_n de_M_copy_84 0 rfl ?_
              refine ab_get (v := .ref 38) fl_M_35 rfl rfl de_M_copy_85 ?_
              refine ab_iload_n de_M_copy_88 1 rfl ?_
              refine ab_iald (v := h 38 sn) rfl (ab_in (by omega) (by decide)) (ab_hv (ab_tn (n := sn) (by omega))) de_M_copy_89 ?_
              refine ab_if_eq (tgt := 102) de_M_copy_90 rfl (fun c_90_14 => ?_) (fun c_90_14 => ?_)
              · refine ab_aload_n de_M_copy_102 0 rfl ?_
                refine ab_bipush (v := -3) de_M_copy_103 rfl ?_
                refine ab_cV (as := [.int (-3 : Int32)]) (st := []) (ct_M_no l _ nr h g rr (r := (-3 : Int32)) (k := 3) (by decide) (by decide)) mo_M_no mi_M_no ml_M_94 rfl (by decide) rfl rfl rfl (Nat.le_of_ble_eq_true rfl) de_M_copy_105 (fun v_ M_ hK_ hl_ hv_ => ?_)
                obtain ⟨rfl, hm_⟩ := hK_
                have hm_ := hm_.symm
                subst hm_
                change ab_G _ _ _ _ _ _ _ [(0, .ref 30), (1, .int (nI sn)), (2, .int (nI un)), (3, .int x), (4, .int y), (5, .int z)] [.int (-3 : Int32)] (ab_S nr (ab_u2 h 31 3 (h 31 3 + 1)) g rr) _
                exact ab_ret (v := some (.int (-3 : Int32))) de_M_copy_108 ⟨_, rfl⟩ (by unfold fx_M_copy; try simp only [ab_tn (show sn < 2 ^ 31 by omega), ab_tn (show un < 2 ^ 31 by omega)]; rw [if_neg c_5_1, if_neg c_13_2, if_neg c_29_3, if_neg c_39_4, if_pos c_49_5, if_neg c_59_13, if_pos c_90_14])
              · refine ab_aload_n de_M_copy_93 0 rfl ?_
                refine ab_get (v := .ref 38) fl_M_35 rfl rfl de_M_copy_94 ?_
                refine ab_iload_n de_M_copy_97 2 rfl ?_
                refine ab_iald (v := h 38 un) rfl (ab_in (by omega) (by decide)) (ab_hv (ab_tn (n := un) (by omega))) de_M_copy_98 ?_
                refine ab_if_ne (tgt := 109) de_M_copy_99 rfl (fun c_99_15 => ?_) (fun c_99_15 => ?_)
                · refine ab_iload de_M_copy_109 5 rfl ?_
                  refine ab_if_ge (tgt := 121) de_M_copy_111 rfl (fun c_111_16 => ?_) (fun c_111_16 => ?_)
                  · obtain ⟨zn, hzn, rfl⟩ := nn_n (Int32.not_lt.mpr c_111_16)
                    refine ab_iload_n de_M_copy_121 3 rfl ?_
                    refine ab_if_lt (tgt := 157) de_M_copy_122 rfl (fun c_122_17 => ?_) (fun c_122_17 => ?_)
                    · refine ab_aload_n de_M_copy_157 0 rfl ?_
                      refine ab_bipush (v := -5) de_M_copy_158 rfl ?_
                      refine ab_cV (as := [.int (-5 : Int32)]) (st := []) (ct_M_no l _ nr h g rr (r := (-5 : Int32)) (k := 5) (by decide) (by decide)) mo_M_no mi_M_no ml_M_94 rfl (by decide) rfl rfl rfl (Nat.le_of_ble_eq_true rfl) de_M_copy_160 (fun v_ M_ hK_ hl_ hv_ => ?_)
                      obtain ⟨rfl, hm_⟩ := hK_
                      have hm_ := hm_.symm
                      subst hm_
                      change ab_G _ _ _ _ _ _ _ [(0, .ref 30), (1, .int (nI sn)), (2, .int (nI un)), (3, .int x), (4, .int y), (5, .int (nI zn))] [.int (-5 : Int32)] (ab_S nr (ab_u2 h 31 5 (h 31 5 + 1)) g rr) _
                      exact ab_ret (v := some (.int (-5 : Int32))) de_M_copy_163 ⟨_, rfl⟩ (by unfold fx_M_copy; try simp only [ab_tn (show sn < 2 ^ 31 by omega), ab_tn (show un < 2 ^ 31 by omega), ab_tn (show zn < 2 ^ 31 by omega)]; rw [if_neg c_5_1, if_neg c_13_2, if_neg c_29_3, if_neg c_39_4, if_pos c_49_5, if_neg c_59_13, if_neg c_90_14, if_neg c_99_15, if_pos c_111_16, if_pos c_122_17])
                    · have c122_ := c_122_17
                      refine ab_iload de_M_copy_125 4 rfl ?_
                      refine ab_if_lt (tgt := 157) de_M_copy_127 rfl (fun c_127_18 => ?_) (fun c_127_18 => ?_)
                      · refine ab_aload_n de_M_copy_157 0 rfl ?_
                        refine ab_bipush (v := -5) de_M_copy_158 rfl ?_
                        refine ab_cV (as := [.int (-5 : Int32)]) (st := []) (ct_M_no l _ nr h g rr (r := (-5 : Int32)) (k := 5) (by decide) (by decide)) mo_M_no mi_M_no ml_M_94 rfl (by decide) rfl rfl rfl (Nat.le_of_ble_eq_true rfl) de_M_copy_160 (fun v_ M_ hK_ hl_ hv_ => ?_)
                        obtain ⟨rfl, hm_⟩ := hK_
                        have hm_ := hm_.symm
                        subst hm_
                        change ab_G _ _ _ _ _ _ _ [(0, .ref 30), (1, .int (nI sn)), (2, .int (nI un)), (3, .int x), (4, .int y), (5, .int (nI zn))] [.int (-5 : Int32)] (ab_S nr (ab_u2 h 31 5 (h 31 5 + 1)) g rr) _
                        exact ab_ret (v := some (.int (-5 : Int32))) de_M_copy_163 ⟨_, rfl⟩ (by unfold fx_M_copy; try simp only [ab_tn (show sn < 2 ^ 31 by omega), ab_tn (show un < 2 ^ 31 by omega), ab_tn (show zn < 2 ^ 31 by omega)]; rw [if_neg c_5_1, if_neg c_13_2, if_neg c_29_3, if_neg c_39_4, if_pos c_49_5, if_neg c_59_13, if_neg c_90_14, if_neg c_99_15, if_pos c_111_16, if_neg c_122_17, if_pos c_127_18])
                      · have c127_ := c_127_18
                        refine ab_iload_n de_M_copy_130 3 rfl ?_
                        refine ab_aload_n de_M_copy_131 0 rfl ?_
                        refine ab_get (v := .ref 40) fl_M_41 rfl rfl de_M_copy_132 ?_
                        refine ab_iload_n de_M_copy_135 1 rfl ?_
                        refine ab_iald (v := h 40 sn) rfl (ab_in (by omega) (by decide)) (ab_hv (ab_tn (n := sn) (by omega))) de_M_copy_136 ?_
                        refine ab_top (v' := nI (zs sn)) ((hzs sn (by omega)).2) ?_
                        refine ab_iload de_M_copy_137 5 rfl ?_
                        refine ab_isub de_M_copy_139 ?_
                        refine ab_icmp_gt (tgt := 157) de_M_copy_140 rfl (fun c_140_19 => ?_) (fun c_140_19 => ?_)
                        · refine ab_aload_n de_M_copy_157 0 rfl ?_
                          refine ab_bipush (v := -5) de_M_copy_158 rfl ?_
                          refine ab_cV (as := [.int (-5 : Int32)]) (st := []) (ct_M_no l _ nr h g rr (r := (-5 : Int32)) (k := 5) (by decide) (by decide)) mo_M_no mi_M_no ml_M_94 rfl (by decide) rfl rfl rfl (Nat.le_of_ble_eq_true rfl) de_M_copy_160 (fun v_ M_ hK_ hl_ hv_ => ?_)
                          obtain ⟨rfl, hm_⟩ := hK_
                          have hm_ := hm_.symm
                          subst hm_
                          change ab_G _ _ _ _ _ _ _ [(0, .ref 30), (1, .int (nI sn)), (2, .int (nI un)), (3, .int x), (4, .int y), (5, .int (nI zn))] [.int (-5 : Int32)] (ab_S nr (ab_u2 h 31 5 (h 31 5 + 1)) g rr) _
                          exact ab_ret (v := some (.int (-5 : Int32))) de_M_copy_163 ⟨_, rfl⟩ (by unfold fx_M_copy; try simp only [ab_tn (show sn < 2 ^ 31 by omega), ab_tn (show un < 2 ^ 31 by omega), ab_tn (show zn < 2 ^ 31 by omega)]; rw [if_neg c_5_1, if_neg c_13_2, if_neg c_29_3, if_neg c_39_4, if_pos c_49_5, if_neg c_59_13, if_neg c_90_14, if_neg c_99_15, if_pos c_111_16, if_neg c_122_17, if_neg c_127_18, if_pos c_140_19])
                        · have z1_ := (hzs sn (by omega)).1
                          obtain ⟨xn, hxn, rfl⟩ := cp_n z1_ (by omega) c122_ c_140_19
                          refine ab_iload de_M_copy_143 4 rfl ?_
                          refine ab_aload_n de_M_copy_145 0 rfl ?_
                          refine ab_get (v := .ref 40) fl_M_41 rfl rfl de_M_copy_146 ?_
                          refine ab_iload_n de_M_copy_149 2 rfl ?_
                          refine ab_iald (v := h 40 un) rfl (ab_in (by omega) (by decide)) (ab_hv (ab_tn (n := un) (by omega))) de_M_copy_150 ?_
                          refine ab_top (v' := nI (zs un)) ((hzs un (by omega)).2) ?_
                          refine ab_iload de_M_copy_151 5 rfl ?_
                          refine ab_isub de_M_copy_153 ?_
                          refine ab_icmp_le (tgt := 164) de_M_copy_154 rfl (fun c_154_20 => ?_) (fun c_154_20 => ?_)
                          · have z2_ := (hzs un (by omega)).1
                            obtain ⟨yn, hyn, rfl⟩ := cp_n z2_ (by omega) c127_ (Int32.not_lt.mpr c_154_20)
                            refine ab_iconst (v := 0) de_M_copy_164 rfl ?_
                            refine ab_istore (L' := [(6, .int (0 : Int32)), (0, .ref 30), (1, .int (nI sn)), (2, .int (nI un)), (3, .int (nI xn)), (4, .int (nI yn)), (5, .int (nI zn))]) de_M_copy_165 (by decide) rfl ?_
                            refine ab_sub (L' := [(0, .ref 30), (1, .int (nI sn)), (2, .int (nI un)), (3, .int (nI xn)), (4, .int (nI yn)), (5, .int (nI zn)), (6, .int (nI 0))]) [1, 2, 3, 4, 5, 6, 0] rfl ?_
                            refine ab_wk (fun r_ M_ q => ?_) (lp_M_copy l (d + 1) nr h g rr (s := sn) (u := un) (x := xn) (y := yn) (z := zn) (by omega) (by omega) (by omega) (by omega))
                            unfold fx_M_copy
                            simp only [ab_tn (show sn < 2 ^ 31 by omega), ab_tn (show un < 2 ^ 31 by omega), ab_tn (show xn < 2 ^ 31 by omega), ab_tn (show yn < 2 ^ 31 by omega), ab_tn (show zn < 2 ^ 31 by omega)]
                            rw [if_neg c_5_1, if_neg c_13_2, if_neg c_29_3, if_neg c_39_4, if_pos c_49_5, if_neg c_59_13, if_neg c_90_14, if_neg c_99_15, if_pos c_111_16, if_neg c_122_17, if_neg c_127_18, if_neg c_140_19, if_pos c_154_20, q.1, q.2]
                          · refine ab_aload_n de_M_copy_157 0 rfl ?_
                            refine ab_bipush (v := -5) de_M_copy_158 rfl ?_
                            refine ab_cV (as := [.int (-5 : Int32)]) (st := []) (ct_M_no l _ nr h g rr (r := (-5 : Int32)) (k := 5) (by decide) (by decide)) mo_M_no mi_M_no ml_M_94 rfl (by decide) rfl rfl rfl (Nat.le_of_ble_eq_true rfl) de_M_copy_160 (fun v_ M_ hK_ hl_ hv_ => ?_)
                            obtain ⟨rfl, hm_⟩ := hK_
                            have hm_ := hm_.symm
                            subst hm_
                            change ab_G _ _ _ _ _ _ _ [(0, .ref 30), (1, .int (nI sn)), (2, .int (nI un)), (3, .int (nI xn)), (4, .int y), (5, .int (nI zn))] [.int (-5 : Int32)] (ab_S nr (ab_u2 h 31 5 (h 31 5 + 1)) g rr) _
                            exact ab_ret (v := some (.int (-5 : Int32))) de_M_copy_163 ⟨_, rfl⟩ (by unfold fx_M_copy; try simp only [ab_tn (show sn < 2 ^ 31 by omega), ab_tn (show un < 2 ^ 31 by omega), ab_tn (show zn < 2 ^ 31 by omega), ab_tn (show xn < 2 ^ 31 by omega)]; rw [if_neg c_5_1, if_neg c_13_2, if_neg c_29_3, if_neg c_39_4, if_pos c_49_5, if_neg c_59_13, if_neg c_90_14, if_neg c_99_15, if_pos c_111_16, if_neg c_122_17, if_neg c_127_18, if_neg c_140_19, if_neg c_154_20])
                  · refine ab_aload_n de_M_copy_114 0 rfl ?_
                    refine ab_bipush (v := -4) de_M_copy_115 rfl ?_
                    refine ab_cV (as := [.int (-4 : Int32)]) (st := []) (ct_M_no l _ nr h g rr (r := (-4 : Int32)) (k := 4) (by decide) (by decide)) mo_M_no mi_M_no ml_M_94 rfl (by decide) rfl rfl rfl (Nat.le_of_ble_eq_true rfl) de_M_copy_117 (fun v_ M_ hK_ hl_ hv_ => ?_)
                    obtain ⟨rfl, hm_⟩ := hK_
                    have hm_ := hm_.symm
                    subst hm_
                    change ab_G _ _ _ _ _ _ _ [(0, .ref 30), (1, .int (nI sn)), (2, .int (nI un)), (3, .int x), (4, .int y), (5, .int z)] [.int (-4 : Int32)] (ab_S nr (ab_u2 h 31 4 (h 31 4 + 1)) g rr) _
                    exact ab_ret (v := some (.int (-4 : Int32))) de_M_copy_120 ⟨_, rfl⟩ (by unfold fx_M_copy; try simp only [ab_tn (show sn < 2 ^ 31 by omega), ab_tn (show un < 2 ^ 31 by omega)]; rw [if_neg c_5_1, if_neg c_13_2, if_neg c_29_3, if_neg c_39_4, if_pos c_49_5, if_neg c_59_13, if_neg c_90_14, if_neg c_99_15, if_neg c_111_16])
                · refine ab_aload_n de_M_copy_102 0 rfl ?_
                  refine ab_bipush (v := -3) de_M_copy_103 rfl ?_
                  refine ab_cV (as := [.int (-3 : Int32)]) (st := []) (ct_M_no l _ nr h g rr (r := (-3 : Int32)) (k := 3) (by decide) (by decide)) mo_M_no mi_M_no ml_M_94 rfl (by decide) rfl rfl rfl (Nat.le_of_ble_eq_true rfl) de_M_copy_105 (fun v_ M_ hK_ hl_ hv_ => ?_)
                  obtain ⟨rfl, hm_⟩ := hK_
                  have hm_ := hm_.symm
                  subst hm_
                  change ab_G _ _ _ _ _ _ _ [(0, .ref 30), (1, .int (nI sn)), (2, .int (nI un)), (3, .int x), (4, .int y), (5, .int z)] [.int (-3 : Int32)] (ab_S nr (ab_u2 h 31 3 (h 31 3 + 1)) g rr) _
                  exact ab_ret (v := some (.int (-3 : Int32))) de_M_copy_108 ⟨_, rfl⟩ (by unfold fx_M_copy; try simp only [ab_tn (show sn < 2 ^ 31 by omega), ab_tn (show un < 2 ^ 31 by omega)]; rw [if_neg c_5_1, if_neg c_13_2, if_neg c_29_3, if_neg c_39_4, if_pos c_49_5, if_neg c_59_13, if_neg c_90_14, if_pos c_99_15])
            · refine ab_aload_n de_M_copy_62 0 rfl ?_
              refine ab_get (v := .ref 39) fl_M_38 rfl rfl de_M_copy_63 ?_
              refine ab_iload_n de_M_copy_66 1 rfl ?_
              refine ab_iald (v := h 39 sn) rfl (ab_in (by omega) (by decide)) (ab_hv (ab_tn (n := sn) (by omega))) de_M_copy_67 ?_
              refine ab_aload_n de_M_copy_68 0 rfl ?_
              refine ab_get (v := .ref 39) fl_M_38 rfl rfl de_M_copy_69 ?_
              refine ab_iload_n de_M_copy_72 2 rfl ?_
              refine ab_iald (v := h 39 un) rfl (ab_in (by omega) (by decide)) (ab_hv (ab_tn (n := un) (by omega))) de_M_copy_73 ?_
              refine ab_icmp_eq (tgt := 84) de_M_copy_74 rfl (fun c_74_21 => ?_) (fun c_74_21 => ?_)
              · refine ab_aload_n de_M_copy_84 0 rfl ?_
                refine ab_get (v := .ref 38) fl_M_35 rfl rfl de_M_copy_85 ?_
                refine ab_iload_n de_M_copy_88 1 rfl ?_
                refine ab_iald (v := h 38 sn) rfl (ab_in (by omega) (by decide)) (ab_hv (ab_tn (n := sn) (by omega))) de_M_copy_89 ?_
                refine ab_if_eq (tgt := 102) de_M_copy_90 rfl (fun c_90_22 => ?_) (fun c_90_22 => ?_)
                · refine ab_aload_n de_M_copy_102 0 rfl ?_
                  refine ab_bipush (v := -3) de_M_copy_103 rfl ?_
                  refine ab_cV (as := [.int (-3 : Int32)]) (st := []) (ct_M_no l _ nr h g rr (r := (-3 : Int32)) (k := 3) (by decide) (by decide)) mo_M_no mi_M_no ml_M_94 rfl (by decide) rfl rfl rfl (Nat.le_of_ble_eq_true rfl) de_M_copy_105 (fun v_ M_ hK_ hl_ hv_ => ?_)
                  obtain ⟨rfl, hm_⟩ := hK_
                  have hm_ := hm_.symm
                  subst hm_
                  change ab_G _ _ _ _ _ _ _ [(0, .ref 30), (1, .int (nI sn)), (2, .int (nI un)), (3, .int x), (4, .int y), (5, .int z)] [.int (-3 : Int32)] (ab_S nr (ab_u2 h 31 3 (h 31 3 + 1)) g rr) _
                  exact ab_ret (v := some (.int (-3 : Int32))) de_M_copy_108 ⟨_, rfl⟩ (by unfold fx_M_copy; try simp only [ab_tn (show sn < 2 ^ 31 by omega), ab_tn (show un < 2 ^ 31 by omega)]; rw [if_neg c_5_1, if_neg c_13_2, if_neg c_29_3, if_neg c_39_4, if_pos c_49_5, if_pos c_59_13, if_pos c_74_21, if_pos c_90_22])
                · refine ab_aload_n de_M_copy_93 0 rfl ?_
                  refine ab_get (v := .ref 38) fl_M_35 rfl rfl de_M_copy_94 ?_
                  refine ab_iload_n de_M_copy_97 2 rfl ?_
                  refine ab_iald (v := h 38 un) rfl (ab_in (by omega) (by decide)) (ab_hv (ab_tn (n := un) (by omega))) de_M_copy_98 ?_
                  refine ab_if_ne (tgt := 109) de_M_copy_99 rfl (fun c_99_23 => ?_) (fun c_99_23 => ?_)
                  · refine ab_iload de_M_copy_109 5 rfl ?_
                    refine ab_if_ge (tgt := 121) de_M_copy_111 rfl (fun c_111_24 => ?_) (fun c_111_24 => ?_)
                    · obtain ⟨zn, hzn, rfl⟩ := nn_n (Int32.not_lt.mpr c_111_24)
                      refine ab_iload_n de_M_copy_121 3 rfl ?_
                      refine ab_if_lt (tgt := 157) de_M_copy_122 rfl (fun c_122_25 => ?_) (fun c_122_25 => ?_)
                      · refine ab_aload_n de_M_copy_157 0 rfl ?_
                        refine ab_bipush (v := -5) de_M_copy_158 rfl ?_
                        refine ab_cV (as := [.int (-5 : Int32)]) (st := []) (ct_M_no l _ nr h g rr (r := (-5 : Int32)) (k := 5) (by decide) (by decide)) mo_M_no mi_M_no ml_M_94 rfl (by decide) rfl rfl rfl (Nat.le_of_ble_eq_true rfl) de_M_copy_160 (fun v_ M_ hK_ hl_ hv_ => ?_)
                        obtain ⟨rfl, hm_⟩ := hK_
                        have hm_ := hm_.symm
                        subst hm_
                        change ab_G _ _ _ _ _ _ _ [(0, .ref 30), (1, .int (nI sn)), (2, .int (nI un)), (3, .int x), (4, .int y), (5, .int (nI zn))] [.int (-5 : Int32)] (ab_S nr (ab_u2 h 31 5 (h 31 5 + 1)) g rr) _
                        exact ab_ret (v := some (.int (-5 : Int32))) de_M_copy_163 ⟨_, rfl⟩ (by unfold fx_M_copy; try simp only [ab_tn (show sn < 2 ^ 31 by omega), ab_tn (show un < 2 ^ 31 by omega), ab_tn (show zn < 2 ^ 31 by omega)]; rw [if_neg c_5_1, if_neg c_13_2, if_neg c_29_3, if_neg c_39_4, if_pos c_49_5, if_pos c_59_13, if_pos c_74_21, if_neg c_90_22, if_neg c_99_23, if_pos c_111_24, if_pos c_122_25])
                      · have c122_ := c_122_25
                        refine ab_iload de_M_copy_125 4 rfl ?_
                        refine ab_if_lt (tgt := 157) de_M_copy_127 rfl (fun c_127_26 => ?_) (fun c_127_26 => ?_)
                        · refine ab_aload_n de_M_copy_157 0 rfl ?_
                          refine ab_bipush (v := -5) de_M_copy_158 rfl ?_
                          refine ab_cV (as := [.int (-5 : Int32)]) (st := []) (ct_M_no l _ nr h g rr (r := (-5 : Int32)) (k := 5) (by decide) (by decide)) mo_M_no mi_M_no ml_M_94 rfl (by decide) rfl rfl rfl (Nat.le_of_ble_eq_true rfl) de_M_copy_160 (fun v_ M_ hK_ hl_ hv_ => ?_)
                          obtain ⟨rfl, hm_⟩ := hK_
                          have hm_ := hm_.symm
                          subst hm_
                          change ab_G _ _ _ _ _ _ _ [(0, .ref 30), (1, .int (nI sn)), (2, .int (nI un)), (3, .int x), (4, .int y), (5, .int (nI zn))] [.int (-5 : Int32)] (ab_S nr (ab_u2 h 31 5 (h 31 5 + 1)) g rr) _
                          exact ab_ret (v := some (.int (-5 : Int32))) de_M_copy_163 ⟨_, rfl⟩ (by unfold fx_M_copy; try simp only [ab_tn (show sn < 2 ^ 31 by omega), ab_tn (show un < 2 ^ 31 by omega), ab_tn (show zn < 2 ^ 31 by omega)]; rw [if_neg c_5_1, if_neg c_13_2, if_neg c_29_3, if_neg c_39_4, if_pos c_49_5, if_pos c_59_13, if_pos c_74_21, if_neg c_90_22, if_neg c_99_23, if_pos c_111_24, if_neg c_122_25, if_pos c_127_26])
                        · have c127_ := c_127_26
                          refine ab_iload_n de_M_copy_130 3 rfl ?_
                          refine ab_aload_n de_M_copy_131 0 rfl ?_
                          refine ab_get (v := .ref 40) fl_M_41 rfl rfl de_M_copy_132 ?_
                          refine ab_iload_n de_M_copy_135 1 rfl ?_
                          refine ab_iald (v := h 40 sn) rfl (ab_in (by omega) (by decide)) (ab_hv (ab_tn (n := sn) (by omega))) de_M_copy_136 ?_
                          refine ab_top (v' := nI (zs sn)) ((hzs sn (by omega)).2) ?_
                          refine ab_iload de_M_copy_137 5 rfl ?_
                          refine ab_isub de_M_copy_139 ?_
                          refine ab_icmp_gt (tgt := 157) de_M_copy_140 rfl (fun c_140_27 => ?_) (fun c_140_27 => ?_)
                          · refine ab_aload_n de_M_copy_157 0 rfl ?_
                            refine ab_bipush (v := -5) de_M_copy_158 rfl ?_
                            refine ab_cV (as := [.int (-5 : Int32)]) (st := []) (ct_M_no l _ nr h g rr (r := (-5 : Int32)) (k := 5) (by decide) (by decide)) mo_M_no mi_M_no ml_M_94 rfl (by decide) rfl rfl rfl (Nat.le_of_ble_eq_true rfl) de_M_copy_160 (fun v_ M_ hK_ hl_ hv_ => ?_)
                            obtain ⟨rfl, hm_⟩ := hK_
                            have hm_ := hm_.symm
                            subst hm_
                            change ab_G _ _ _ _ _ _ _ [(0, .ref 30), (1, .int (nI sn)), (2, .int (nI un)), (3, .int x), (4, .int y), (5, .int (nI zn))] [.int (-5 : Int32)] (ab_S nr (ab_u2 h 31 5 (h 31 5 + 1)) g rr) _
                            exact ab_ret (v := some (.int (-5 : Int32))) de_M_copy_163 ⟨_, rfl⟩ (by unfold fx_M_copy; try simp only [ab_tn (show sn < 2 ^ 31 by omega), ab_tn (show un < 2 ^ 31 by omega), ab_tn (show zn < 2 ^ 31 by omega)]; rw [if_neg c_5_1, if_neg c_13_2, if_neg c_29_3, if_neg c_39_4, if_pos c_49_5, if_pos c_59_13, if_pos c_74_21, if_neg c_90_22, if_neg c_99_23, if_pos c_111_24, if_neg c_122_25, if_neg c_127_26, if_pos c_140_27])
                          · have z1_ := (hzs sn (by omega)).1
                            obtain ⟨xn, hxn, rfl⟩ := cp_n z1_ (by omega) c122_ c_140_27
                            refine ab_iload de_M_copy_143 4 rfl ?_
                            refine ab_aload_n de_M_copy_145 0 rfl ?_
                            refine ab_get (v := .ref 40) fl_M_41 rfl rfl de_M_copy_146 ?_
                            refine ab_iload_n de_M_copy_149 2 rfl ?_
                            refine ab_iald (v := h 40 un) rfl (ab_in (by omega) (by decide)) (ab_hv (ab_tn (n := un) (by omega))) de_M_copy_150 ?_
                            refine ab_top (v' := nI (zs un)) ((hzs un (by omega)).2) ?_
                            refine ab_iload de_M_copy_151 5 rfl ?_
                            refine ab_isub de_M_copy_153 ?_
                            refine ab_icmp_le (tgt := 164) de_M_copy_154 rfl (fun c_154_28 => ?_) (fun c_154_28 => ?_)
                            · have z2_ := (hzs un (by omega)).1
                              obtain ⟨yn, hyn, rfl⟩ := cp_n z2_ (by omega) c127_ (Int32.not_lt.mpr c_154_28)
                              refine ab_iconst (v := 0) de_M_copy_164 rfl ?_
                              refine ab_istore (L' := [(6, .int (0 : Int32)), (0, .ref 30), (1, .int (nI sn)), (2, .int (nI un)), (3, .int (nI xn)), (4, .int (nI yn)), (5, .int (nI zn))]) de_M_copy_165 (by decide) rfl ?_
                              refine ab_sub (L' := [(0, .ref 30), (1, .int (nI sn)), (2, .int (nI un)), (3, .int (nI xn)), (4, .int (nI yn)), (5, .int (nI zn)), (6, .int (nI 0))]) [1, 2, 3, 4, 5, 6, 0] rfl ?_
                              refine ab_wk (fun r_ M_ q => ?_) (lp_M_copy l (d + 1) nr h g rr (s := sn) (u := un) (x := xn) (y := yn) (z := zn) (by omega) (by omega) (by omega) (by omega))
                              unfold fx_M_copy
                              simp only [ab_tn (show sn < 2 ^ 31 by omega), ab_tn (show un < 2 ^ 31 by omega), ab_tn (show xn < 2 ^ 31 by omega), ab_tn (show yn < 2 ^ 31 by omega), ab_tn (show zn < 2 ^ 31 by omega)]
                              rw [if_neg c_5_1, if_neg c_13_2, if_neg c_29_3, if_neg c_39_4, if_pos c_49_5, if_pos c_59_13, if_pos c_74_21, if_neg c_90_22, if_neg c_99_23, if_pos c_111_24, if_neg c_122_25, if_neg c_127_26, if_neg c_140_27, if_pos c_154_28, q.1, q.2]
                            · refine ab_aload_n de_M_copy_157 0 rfl ?_
                              refine ab_bipush (v := -5) de_M_copy_158 rfl ?_
                              refine ab_cV (as := [.int (-5 : Int32)]) (st := []) (ct_M_no l _ nr h g rr (r := (-5 : Int32)) (k := 5) (by decide) (by decide)) mo_M_no mi_M_no ml_M_94 rfl (by decide) rfl rfl rfl (Nat.le_of_ble_eq_true rfl) de_M_copy_160 (fun v_ M_ hK_ hl_ hv_ => ?_)
                              obtain ⟨rfl, hm_⟩ := hK_
                              have hm_ := hm_.symm
                              subst hm_
                              change ab_G _ _ _ _ _ _ _ [(0, .ref 30), (1, .int (nI sn)), (2, .int (nI un)), (3, .int (nI xn)), (4, .int y), (5, .int (nI zn))] [.int (-5 : Int32)] (ab_S nr (ab_u2 h 31 5 (h 31 5 + 1)) g rr) _
                              exact ab_ret (v := some (.int (-5 : Int32))) de_M_copy_163 ⟨_, rfl⟩ (by unfold fx_M_copy; try simp only [ab_tn (show sn < 2 ^ 31 by omega), ab_tn (show un < 2 ^ 31 by omega), ab_tn (show zn < 2 ^ 31 by omega), ab_tn (show xn < 2 ^ 31 by omega)]; rw [if_neg c_5_1, if_neg c_13_2, if_neg c_29_3, if_neg c_39_4, if_pos c_49_5, if_pos c_59_13, if_pos c_74_21, if_neg c_90_22, if_neg c_99_23, if_pos c_111_24, if_neg c_122_25, if_neg c_127_26, if_neg c_140_27, if_neg c_154_28])
                    · refine ab_aload_n de_M_copy_114 0 rfl ?_
                      refine ab_bipush (v := -4) de_M_copy_115 rfl ?_
                      refine ab_cV (as := [.int (-4 : Int32)]) (st := []) (ct_M_no l _ nr h g rr (r := (-4 : Int32)) (k := 4) (by decide) (by decide)) mo_M_no mi_M_no ml_M_94 rfl (by decide) rfl rfl rfl (Nat.le_of_ble_eq_true rfl) de_M_copy_117 (fun v_ M_ hK_ hl_ hv_ => ?_)
                      obtain ⟨rfl, hm_⟩ := hK_
                      have hm_ := hm_.symm
                      subst hm_
                      change ab_G _ _ _ _ _ _ _ [(0, .ref 30), (1, .int (nI sn)), (2, .int (nI un)), (3, .int x), (4, .int y), (5, .int z)] [.int (-4 : Int32)] (ab_S nr (ab_u2 h 31 4 (h 31 4 + 1)) g rr) _
                      exact ab_ret (v := some (.int (-4 : Int32))) de_M_copy_120 ⟨_, rfl⟩ (by unfold fx_M_copy; try simp only [ab_tn (show sn < 2 ^ 31 by omega), ab_tn (show un < 2 ^ 31 by omega)]; rw [if_neg c_5_1, if_neg c_13_2, if_neg c_29_3, if_neg c_39_4, if_pos c_49_5, if_pos c_59_13, if_pos c_74_21, if_neg c_90_22, if_neg c_99_23, if_neg c_111_24])
                  · refine ab_aload_n de_M_copy_102 0 rfl ?_
                    refine ab_bipush (v := -3) de_M_copy_103 rfl ?_
                    refine ab_cV (as := [.int (-3 : Int32)]) (st := []) (ct_M_no l _ nr h g rr (r := (-3 : Int32)) (k := 3) (by decide) (by decide)) mo_M_no mi_M_no ml_M_94 rfl (by decide) rfl rfl rfl (Nat.le_of_ble_eq_true rfl) de_M_copy_105 (fun v_ M_ hK_ hl_ hv_ => ?_)
                    obtain ⟨rfl, hm_⟩ := hK_
                    have hm_ := hm_.symm
                    subst hm_
                    change ab_G _ _ _ _ _ _ _ [(0, .ref 30), (1, .int (nI sn)), (2, .int (nI un)), (3, .int x), (4, .int y), (5, .int z)] [.int (-3 : Int32)] (ab_S nr (ab_u2 h 31 3 (h 31 3 + 1)) g rr) _
                    exact ab_ret (v := some (.int (-3 : Int32))) de_M_copy_108 ⟨_, rfl⟩ (by unfold fx_M_copy; try simp only [ab_tn (show sn < 2 ^ 31 by omega), ab_tn (show un < 2 ^ 31 by omega)]; rw [if_neg c_5_1, if_neg c_13_2, if_neg c_29_3, if_neg c_39_4, if_pos c_49_5, if_pos c_59_13, if_pos c_74_21, if_neg c_90_22, if_pos c_99_23])
              · refine ab_aload_n de_M_copy_77 0 rfl ?_
                refine ab_bipush (v := -2) de_M_copy_78 rfl ?_
                refine ab_cV (as := [.int (-2 : Int32)]) (st := []) (ct_M_no l _ nr h g rr (r := (-2 : Int32)) (k := 2) (by decide) (by decide)) mo_M_no mi_M_no ml_M_94 rfl (by decide) rfl rfl rfl (Nat.le_of_ble_eq_true rfl) de_M_copy_80 (fun v_ M_ hK_ hl_ hv_ => ?_)
                obtain ⟨rfl, hm_⟩ := hK_
                have hm_ := hm_.symm
                subst hm_
                change ab_G _ _ _ _ _ _ _ [(0, .ref 30), (1, .int (nI sn)), (2, .int (nI un)), (3, .int x), (4, .int y), (5, .int z)] [.int (-2 : Int32)] (ab_S nr (ab_u2 h 31 2 (h 31 2 + 1)) g rr) _
                exact ab_ret (v := some (.int (-2 : Int32))) de_M_copy_83 ⟨_, rfl⟩ (by unfold fx_M_copy; try simp only [ab_tn (show sn < 2 ^ 31 by omega), ab_tn (show un < 2 ^ 31 by omega)]; rw [if_neg c_5_1, if_neg c_13_2, if_neg c_29_3, if_neg c_39_4, if_pos c_49_5, if_pos c_59_13, if_neg c_74_21])
    · refine ab_aload_n de_M_copy_16 0 rfl ?_
      refine ab_iconst (v := -1) de_M_copy_17 rfl ?_
      refine ab_cV (as := [.int (-1 : Int32)]) (st := []) (ct_M_no l _ nr h g rr (r := (-1 : Int32)) (k := 1) (by decide) (by decide)) mo_M_no mi_M_no ml_M_94 rfl (by decide) rfl rfl rfl (Nat.le_of_ble_eq_true rfl) de_M_copy_18 (fun v_ M_ hK_ hl_ hv_ => ?_)
      obtain ⟨rfl, hm_⟩ := hK_
      have hm_ := hm_.symm
      subst hm_
      change ab_G _ _ _ _ _ _ _ [(0, .ref 30), (1, .int (nI sn)), (2, .int u), (3, .int x), (4, .int y), (5, .int z)] [.int (-1 : Int32)] (ab_S nr (ab_u2 h 31 1 (h 31 1 + 1)) g rr) _
      exact ab_ret (v := some (.int (-1 : Int32))) de_M_copy_21 ⟨_, rfl⟩ (by unfold fx_M_copy; try simp only [ab_tn (show sn < 2 ^ 31 by omega)]; rw [if_neg c_5_1, if_pos c_13_2])
