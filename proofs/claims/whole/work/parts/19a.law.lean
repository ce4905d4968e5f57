/-! the law: a call on each side, the same answer -/
def am_L : ab_M := (x, code, 4, some .boolean)
section ABL
variable {l : Launch} {X : Option (Nat × (Nat → Int32))} {y : ab_M} {d kc ks : Nat} {K : Option Value → ab_Me → Prop} {pc : Nat} {L : List (Nat × Value)} {st : List Value} {M : ab_Me}
theorem ab_lcmp {a b : Int64} (hd : decode y.2.1 pc = .ok (.lcmp, 1)) (k : ab_G l X y d kc ks (pc + 1) L (.int (lg_cmp a b) :: st) M K) : ab_G l X y d kc ks pc L (.long b :: .long a :: st) M K :=
  fun p e R s m args below meth c E D A H locs cells slots ls Q C hR hS hL => W.lcmp C.1.1 C.1.2.1 hd (k p e R s m args below meth c E D A H locs cells slots ls Q C hR hS hL)
theorem ab_less {n1 n : Nat} (k : ab_G l X y d kc ks pc L st M K) : ab_G l X y d (n1 + kc) (n + ks) pc L st M K :=
  fun p e R s m args below meth c E D A H locs cells slots ls Q C hR hS hL => W.widen (Nat.le_add_right cells n1) (Nat.le_add_right slots n) (k p e R s m args below meth c E D A H locs (cells + n1) (slots + n) ls Q (ab_more ⟨List.prefix_refl _, by omega, rfl, fun _ _ => rfl⟩ C) hR hS hL)
end ABL
theorem lg_cmp_self (a : Int64) : lg_cmp a a = 0 := by simp [lg_cmp]
theorem ab_lL (nr : Nat) (h : Nat → Nat → Int32) (g : Nat → Nat → Int64) (rr : Nat → Option Nat) (o : Nat) : ([(3, Value.int (nI o)), (2, .ref 30), (1, .ref 0), (0, .float 0)] : List (Nat × Value)).all (fun q => ab_okv (ab_S nr h g rr).1.length q.2) = true := by
  rw [ab_Sl]
  exact ab_okL rfl
set_option maxHeartbeats 1000000 in
set_option maxRecDepth 10000 in
theorem lc_row (l : Launch) {n : Nat} {xs : Nat → Int32} (hn : n ≤ 3072) {o : Nat} (ho : o + 6 ≤ n) (nr : Nat) (h : Nat → Nat → Int32) (g : Nat → Nat → Int64) (rr : Nat → Option Nat) (hA : jA nr h g rr) {kc ks : Nat} {K : Option Value → ab_Me → Prop} (kk : ∀ nr h g rr, jA nr h g rr → ab_G l (some (n, xs)) am_L 21 kc ks 1519 [(3, .int (nI o)), (2, .ref 30), (1, .ref 0), (0, .float 0)] [] (ab_S nr h g rr) K) : ab_G l (some (n, xs)) am_L 21 kc ks 216 [(3, .int (nI o)), (2, .ref 30), (1, .ref 0), (0, .float 0)] [] (ab_S nr h g rr) K := by
  obtain ⟨σ, q_, h0_, hC_, hD_⟩ := hA
  refine ab_aload_n de_L_law_216 2 rfl ?_
  refine ab_fload_n de_L_law_217 3 rfl ?_
  refine ab_iload_n de_L_law_218 0 rfl ?_
  refine ab_iconst (v := 1) de_L_law_219 rfl ?_
  refine ab_iadd de_L_law_220 ?_
  refine ab_top (v' := nI (o + 1)) (ab_add _ _) ?_
  refine ab_sld (v := xs (o + 1)) (ab_in (by omega) (by omega)) (congrArg xs (ab_tn (by omega))) de_L_law_221 ?_
  refine ab_fload_n de_L_law_222 3 rfl ?_
  refine ab_iload_n de_L_law_223 0 rfl ?_
  refine ab_iconst (v := 2) de_L_law_224 rfl ?_
  refine ab_iadd de_L_law_225 ?_
  refine ab_top (v' := nI (o + 2)) (ab_add _ _) ?_
  refine ab_sld (v := xs (o + 2)) (ab_in (by omega) (by omega)) (congrArg xs (ab_tn (by omega))) de_L_law_226 ?_
  refine ab_fload_n de_L_law_227 3 rfl ?_
  refine ab_iload_n de_L_law_228 0 rfl ?_
  refine ab_iconst (v := 3) de_L_law_229 rfl ?_
  refine ab_iadd de_L_law_230 ?_
  refine ab_top (v' := nI (o + 3)) (ab_add _ _) ?_
  refine ab_sld (v := xs (o + 3)) (ab_in (by omega) (by omega)) (congrArg xs (ab_tn (by omega))) de_L_law_231 ?_
  refine ab_cV (as := [.int (xs (o + 1)), .int (xs (o + 2)), .int (xs (o + 3))]) (st := []) (js_row l h0_ hC_ hD_ (xs (o + 1)) (xs (o + 2)) (xs (o + 3))) mo_W_row mi_W_row ml_L_13 rfl (by decide) rfl rfl rfl (Nat.le_of_ble_eq_true rfl) de_L_law_232 (fun v_ M_ hK_ hl_ hv_ => ?_)
  obtain ⟨v1_, nr1_, h1_, g1_, rr1_, rfl, rfl, hM_⟩ := hK_
  obtain ⟨w_, hw_⟩ := (show ∃ x, some v1_ = some (.int x) from hv_)
  cases hw_
  change ab_G _ _ _ _ _ _ _ [(3, .int (nI o)), (2, .ref 30), (1, .ref 0), (0, .float 0)] [.int w_] (ab_S nr1_ h1_ g1_ rr1_) _
  refine ab_aload_n de_L_law_235 1 rfl ?_
  refine ab_fload_n de_L_law_236 3 rfl ?_
  refine ab_iload_n de_L_law_237 0 rfl ?_
  refine ab_iconst (v := 1) de_L_law_238 rfl ?_
  refine ab_iadd de_L_law_239 ?_
  refine ab_top (v' := nI (o + 1)) (ab_add _ _) ?_
  refine ab_sld (v := xs (o + 1)) (ab_in (by omega) (by omega)) (congrArg xs (ab_tn (by omega))) de_L_law_240 ?_
  refine ab_fload_n de_L_law_241 3 rfl ?_
  refine ab_iload_n de_L_law_242 0 rfl ?_
  refine ab_iconst (v := 2) de_L_law_243 rfl ?_
  refine ab_iadd de_L_law_244 ?_
  refine ab_top (v' := nI (o + 2)) (ab_add _ _) ?_
  refine ab_sld (v := xs (o + 2)) (ab_in (by omega) (by omega)) (congrArg xs (ab_tn (by omega))) de_L_law_245 ?_
  refine ab_fload_n de_L_law_246 3 rfl ?_
  refine ab_iload_n de_L_law_247 0 rfl ?_
  refine ab_iconst (v := 3) de_L_law_248 rfl ?_
  refine ab_iadd de_L_law_249 ?_
  refine ab_top (v' := nI (o + 3)) (ab_add _ _) ?_
  refine ab_sld (v := xs (o + 3)) (ab_in (by omega) (by omega)) (congrArg xs (ab_tn (by omega))) de_L_law_250 ?_
  refine ab_cV (as := [.int (xs (o + 1)), .int (xs (o + 2)), .int (xs (o + 3))]) (st := [.int w_]) (hM_) mo_M_row mi_M_row ml_L_17 rfl (by decide) rfl rfl rfl (Nat.le_of_ble_eq_true rfl) de_L_law_251 (fun v_ M_ hK_ hl_ hv_ => ?_)
  obtain ⟨rfl, nr2_, h2_, g2_, rr2_, rfl, hA2_⟩ := hK_
  change ab_G _ _ _ _ _ _ _ [(3, .int (nI o)), (2, .ref 30), (1, .ref 0), (0, .float 0)] [.int w_, .int w_] (ab_S nr2_ h2_ g2_ rr2_) _
  refine ab_icmp_eq (tgt := 1519) de_L_law_254 rfl (fun c_254_1 => ?_) (fun c_254_1 => ?_)
  · exact kk nr2_ h2_ g2_ rr2_ hA2_
  · exact absurd rfl c_254_1
set_option maxHeartbeats 1000000 in
set_option maxRecDepth 10000 in
theorem lc_set (l : Launch) {n : Nat} {xs : Nat → Int32} (hn : n ≤ 3072) {o : Nat} (ho : o + 6 ≤ n) (nr : Nat) (h : Nat → Nat → Int32) (g : Nat → Nat → Int64) (rr : Nat → Option Nat) (hA : jA nr h g rr) {kc ks : Nat} {K : Option Value → ab_Me → Prop} (kk : ∀ nr h g rr, jA nr h g rr → ab_G l (some (n, xs)) am_L 21 kc ks 1519 [(3, .int (nI o)), (2, .ref 30), (1, .ref 0), (0, .float 0)] [] (ab_S nr h g rr) K) : ab_G l (some (n, xs)) am_L 21 kc ks 259 [(3, .int (nI o)), (2, .ref 30), (1, .ref 0), (0, .float 0)] [] (ab_S nr h g rr) K := by
  obtain ⟨σ, q_, h0_, hC_, hD_⟩ := hA
  refine ab_aload_n de_L_law_259 2 rfl ?_
  refine ab_fload_n de_L_law_260 3 rfl ?_
  refine ab_iload_n de_L_law_261 0 rfl ?_
  refine ab_iconst (v := 1) de_L_law_262 rfl ?_
  refine ab_iadd de_L_law_263 ?_
  refine ab_top (v' := nI (o + 1)) (ab_add _ _) ?_
  refine ab_sld (v := xs (o + 1)) (ab_in (by omega) (by omega)) (congrArg xs (ab_tn (by omega))) de_L_law_264 ?_
  refine ab_fload_n de_L_law_265 3 rfl ?_
  refine ab_iload_n de_L_law_266 0 rfl ?_
  refine ab_iconst (v := 2) de_L_law_267 rfl ?_
  refine ab_iadd de_L_law_268 ?_
  refine ab_top (v' := nI (o + 2)) (ab_add _ _) ?_
  refine ab_sld (v := xs (o + 2)) (ab_in (by omega) (by omega)) (congrArg xs (ab_tn (by omega))) de_L_law_269 ?_
  refine ab_fload_n de_L_law_270 3 rfl ?_
  refine ab_iload_n de_L_law_271 0 rfl ?_
  refine ab_iconst (v := 3) de_L_law_272 rfl ?_
  refine ab_iadd de_L_law_273 ?_
  refine ab_top (v' := nI (o + 3)) (ab_add _ _) ?_
  refine ab_sld (v := xs (o + 3)) (ab_in (by omega) (by omega)) (congrArg xs (ab_tn (by omega))) de_L_law_274 ?_
  refine ab_i2l de_L_law_275 rfl ?_
  refine ab_bipush (v := 32) de_L_law_276 rfl ?_
  refine ab_lshl de_L_law_278 rfl ?_
  refine ab_fload_n de_L_law_279 3 rfl ?_
  refine ab_iload_n de_L_law_280 0 rfl ?_
  refine ab_iconst (v := 4) de_L_law_281 rfl ?_
  refine ab_iadd de_L_law_282 ?_
  refine ab_top (v' := nI (o + 4)) (ab_add _ _) ?_
  refine ab_sld (v := xs (o + 4)) (ab_in (by omega) (by omega)) (congrArg xs (ab_tn (by omega))) de_L_law_283 ?_
  refine ab_i2l de_L_law_284 rfl ?_
  refine ab_ldc2 co_L_18 de_L_law_285 ?_
  refine ab_land de_L_law_288 ?_
  refine ab_lor de_L_law_289 ?_
  refine ab_cV (as := [.int (xs (o + 1)), .int (xs (o + 2)), .long ((((xs (o + 3)).toInt64) <<< (((32 : Int32) : Int32).toInt64 &&& 63)) ||| (((xs (o + 4)).toInt64) &&& (4294967295 : Int64)))]) (st := []) (js_set l h0_ hC_ hD_ (xs (o + 1)) (xs (o + 2)) ((((xs (o + 3)).toInt64) <<< (((32 : Int32) : Int32).toInt64 &&& 63)) ||| (((xs (o + 4)).toInt64) &&& (4294967295 : Int64)))) mo_W_set mi_W_set ml_L_20 rfl (by decide) rfl rfl rfl (Nat.le_of_ble_eq_true rfl) de_L_law_290 (fun v_ M_ hK_ hl_ hv_ => ?_)
  obtain ⟨v1_, nr1_, h1_, g1_, rr1_, rfl, rfl, hM_⟩ := hK_
  obtain ⟨w_, hw_⟩ := (show ∃ x, some v1_ = some (.int x) from hv_)
  cases hw_
  change ab_G _ _ _ _ _ _ _ [(3, .int (nI o)), (2, .ref 30), (1, .ref 0), (0, .float 0)] [.int w_] (ab_S nr1_ h1_ g1_ rr1_) _
  refine ab_aload_n de_L_law_293 1 rfl ?_
  refine ab_fload_n de_L_law_294 3 rfl ?_
  refine ab_iload_n de_L_law_295 0 rfl ?_
  refine ab_iconst (v := 1) de_L_law_296 rfl ?_
  refine ab_iadd de_L_law_297 ?_
  refine ab_top (v' := nI (o + 1)) (ab_add _ _) ?_
  refine ab_sld (v := xs (o + 1)) (ab_in (by omega) (by omega)) (congrArg xs (ab_tn (by omega))) de_L_law_298 ?_
  refine ab_fload_n de_L_law_299 3 rfl ?_
  refine ab_iload_n de_L_law_300 0 rfl ?_
  refine ab_iconst (v := 2) de_L_law_301 rfl ?_
  refine ab_iadd de_L_law_302 ?_
  refine ab_top (v' := nI (o + 2)) (ab_add _ _) ?_
  refine ab_sld (v := xs (o + 2)) (ab_in (by omega) (by omega)) (congrArg xs (ab_tn (by omega))) de_L_law_303 ?_
  refine ab_fload_n de_L_law_304 3 rfl ?_
  refine ab_iload_n de_L_law_305 0 rfl ?_
  refine ab_iconst (v := 3) de_L_law_306 rfl ?_
  refine ab_iadd de_L_law_307 ?_
  refine ab_top (v' := nI (o + 3)) (ab_add _ _) ?_
  refine ab_sld (v := xs (o + 3)) (ab_in (by omega) (by omega)) (congrArg xs (ab_tn (by omega))) de_L_law_308 ?_
  refine ab_i2l de_L_law_309 rfl ?_
  refine ab_bipush (v := 32) de_L_law_310 rfl ?_
  refine ab_lshl de_L_law_312 rfl ?_
  refine ab_fload_n de_L_law_313 3 rfl ?_
  refine ab_iload_n de_L_law_314 0 rfl ?_
  refine ab_iconst (v := 4) de_L_law_315 rfl ?_
  refine ab_iadd de_L_law_316 ?_
  refine ab_top (v' := nI (o + 4)) (ab_add _ _) ?_
  refine ab_sld (v := xs (o + 4)) (ab_in (by omega) (by omega)) (congrArg xs (ab_tn (by omega))) de_L_law_317 ?_
  refine ab_i2l de_L_law_318 rfl ?_
  refine ab_ldc2 co_L_18 de_L_law_319 ?_
  refine ab_land de_L_law_322 ?_
  refine ab_lor de_L_law_323 ?_
  refine ab_cV (as := [.int (xs (o + 1)), .int (xs (o + 2)), .long ((((xs (o + 3)).toInt64) <<< (((32 : Int32) : Int32).toInt64 &&& 63)) ||| (((xs (o + 4)).toInt64) &&& (4294967295 : Int64)))]) (st := [.int w_]) (hM_) mo_M_set mi_M_set ml_L_24 rfl (by decide) rfl rfl rfl (Nat.le_of_ble_eq_true rfl) de_L_law_324 (fun v_ M_ hK_ hl_ hv_ => ?_)
  obtain ⟨rfl, nr2_, h2_, g2_, rr2_, rfl, hA2_⟩ := hK_
  change ab_G _ _ _ _ _ _ _ [(3, .int (nI o)), (2, .ref 30), (1, .ref 0), (0, .float 0)] [.int w_, .int w_] (ab_S nr2_ h2_ g2_ rr2_) _
  refine ab_icmp_eq (tgt := 1519) de_L_law_327 rfl (fun c_327_1 => ?_) (fun c_327_1 => ?_)
  · exact kk nr2_ h2_ g2_ rr2_ hA2_
  · exact absurd rfl c_327_1
set_option maxHeartbeats 1000000 in
set_option maxRecDepth 10000 in
theorem lc_copy (l : Launch) {n : Nat} {xs : Nat → Int32} (hn : n ≤ 3072) {o : Nat} (ho : o + 6 ≤ n) (nr : Nat) (h : Nat → Nat → Int32) (g : Nat → Nat → Int64) (rr : Nat → Option Nat) (hA : jA nr h g rr) {kc ks : Nat} {K : Option Value → ab_Me → Prop} (kk : ∀ nr h g rr, jA nr h g rr → ab_G l (some (n, xs)) am_L 21 kc ks 1519 [(3, .int (nI o)), (2, .ref 30), (1, .ref 0), (0, .float 0)] [] (ab_S nr h g rr) K) : ab_G l (some (n, xs)) am_L 21 kc ks 332 [(3, .int (nI o)), (2, .ref 30), (1, .ref 0), (0, .float 0)] [] (ab_S nr h g rr) K := by
  obtain ⟨σ, q_, h0_, hC_, hD_⟩ := hA
  refine ab_aload_n de_L_law_332 2 rfl ?_
  refine ab_fload_n de_L_law_333 3 rfl ?_
  refine ab_iload_n de_L_law_334 0 rfl ?_
  refine ab_iconst (v := 1) de_L_law_335 rfl ?_
  refine ab_iadd de_L_law_336 ?_
  refine ab_top (v' := nI (o + 1)) (ab_add _ _) ?_
  refine ab_sld (v := xs (o + 1)) (ab_in (by omega) (by omega)) (congrArg xs (ab_tn (by omega))) de_L_law_337 ?_
  refine ab_fload_n de_L_law_338 3 rfl ?_
  refine ab_iload_n de_L_law_339 0 rfl ?_
  refine ab_iconst (v := 2) de_L_law_340 rfl ?_
  refine ab_iadd de_L_law_341 ?_
  refine ab_top (v' := nI (o + 2)) (ab_add _ _) ?_
  refine ab_sld (v := xs (o + 2)) (ab_in (by omega) (by omega)) (congrArg xs (ab_tn (by omega))) de_L_law_342 ?_
  refine ab_fload_n de_L_law_343 3 rfl ?_
  refine ab_iload_n de_L_law_344 0 rfl ?_
  refine ab_iconst (v := 3) de_L_law_345 rfl ?_
  refine ab_iadd de_L_law_346 ?_
  refine ab_top (v' := nI (o + 3)) (ab_add _ _) ?_
  refine ab_sld (v := xs (o + 3)) (ab_in (by omega) (by omega)) (congrArg xs (ab_tn (by omega))) de_L_law_347 ?_
  refine ab_fload_n de_L_law_348 3 rfl ?_
  refine ab_iload_n de_L_law_349 0 rfl ?_
  refine ab_iconst (v := 4) de_L_law_350 rfl ?_
  refine ab_iadd de_L_law_351 ?_
  refine ab_top (v' := nI (o + 4)) (ab_add _ _) ?_
  refine ab_sld (v := xs (o + 4)) (ab_in (by omega) (by omega)) (congrArg xs (ab_tn (by omega))) de_L_law_352 ?_
  refine ab_fload_n de_L_law_353 3 rfl ?_
  refine ab_iload_n de_L_law_354 0 rfl ?_
  refine ab_iconst (v := 5) de_L_law_355 rfl ?_
  refine ab_iadd de_L_law_356 ?_
  refine ab_top (v' := nI (o + 5)) (ab_add _ _) ?_
  refine ab_sld (v := xs (o + 5)) (ab_in (by omega) (by omega)) (congrArg xs (ab_tn (by omega))) de_L_law_357 ?_
  refine ab_cV (as := [.int (xs (o + 1)), .int (xs (o + 2)), .int (xs (o + 3)), .int (xs (o + 4)), .int (xs (o + 5))]) (st := []) (js_copy l h0_ hC_ hD_ (xs (o + 1)) (xs (o + 2)) (xs (o + 3)) (xs (o + 4)) (xs (o + 5))) mo_W_copy mi_W_copy ml_L_25 rfl (by decide) rfl rfl rfl (Nat.le_of_ble_eq_true rfl) de_L_law_358 (fun v_ M_ hK_ hl_ hv_ => ?_)
  obtain ⟨v1_, nr1_, h1_, g1_, rr1_, rfl, rfl, hM_⟩ := hK_
  obtain ⟨w_, hw_⟩ := (show ∃ x, some v1_ = some (.int x) from hv_)
  cases hw_
  change ab_G _ _ _ _ _ _ _ [(3, .int (nI o)), (2, .ref 30), (1, .ref 0), (0, .float 0)] [.int w_] (ab_S nr1_ h1_ g1_ rr1_) _
  refine ab_aload_n de_L_law_361 1 rfl ?_
  refine ab_fload_n de_L_law_362 3 rfl ?_
  refine ab_iload_n de_L_law_363 0 rfl ?_
  refine ab_iconst (v := 1) de_L_law_364 rfl ?_
  refine ab_iadd de_L_law_365 ?_
  refine ab_top (v' := nI (o + 1)) (ab_add _ _) ?_
  refine ab_sld (v := xs (o + 1)) (ab_in (by omega) (by omega)) (congrArg xs (ab_tn (by omega))) de_L_law_366 ?_
  refine ab_fload_n de_L_law_367 3 rfl ?_
  refine ab_iload_n de_L_law_368 0 rfl ?_
  refine ab_iconst (v := 2) de_L_law_369 rfl ?_
  refine ab_iadd de_L_law_370 ?_
  refine ab_top (v' := nI (o + 2)) (ab_add _ _) ?_
  refine ab_sld (v := xs (o + 2)) (ab_in (by omega) (by omega)) (congrArg xs (ab_tn (by omega))) de_L_law_371 ?_
  refine ab_fload_n de_L_law_372 3 rfl ?_
  refine ab_iload_n de_L_law_373 0 rfl ?_
  refine ab_iconst (v := 3) de_L_law_374 rfl ?_
  refine ab_iadd de_L_law_375 ?_
  refine ab_top (v' := nI (o + 3)) (ab_add _ _) ?_
  refine ab_sld (v := xs (o + 3)) (ab_in (by omega) (by omega)) (congrArg xs (ab_tn (by omega))) de_L_law_376 ?_
  refine ab_fload_n de_L_law_377 3 rfl ?_
  refine ab_iload_n de_L_law_378 0 rfl ?_
  refine ab_iconst (v := 4) de_L_law_379 rfl ?_
  refine ab_iadd de_L_law_380 ?_
  refine ab_top (v' := nI (o + 4)) (ab_add _ _) ?_
  refine ab_sld (v := xs (o + 4)) (ab_in (by omega) (by omega)) (congrArg xs (ab_tn (by omega))) de_L_law_381 ?_
  refine ab_fload_n de_L_law_382 3 rfl ?_
  refine ab_iload_n de_L_law_383 0 rfl ?_
  refine ab_iconst (v := 5) de_L_law_384 rfl ?_
  refine ab_iadd de_L_law_385 ?_
  refine ab_top (v' := nI (o + 5)) (ab_add _ _) ?_
  refine ab_sld (v := xs (o + 5)) (ab_in (by omega) (by omega)) (congrArg xs (ab_tn (by omega))) de_L_law_386 ?_
  refine ab_cV (as := [.int (xs (o + 1)), .int (xs (o + 2)), .int (xs (o + 3)), .int (xs (o + 4)), .int (xs (o + 5))]) (st := [.int w_]) (hM_) mo_M_copy mi_M_copy ml_L_29 rfl (by decide) rfl rfl rfl (Nat.le_of_ble_eq_true rfl) de_L_law_387 (fun v_ M_ hK_ hl_ hv_ => ?_)
  obtain ⟨rfl, nr2_, h2_, g2_, rr2_, rfl, hA2_⟩ := hK_
  change ab_G _ _ _ _ _ _ _ [(3, .int (nI o)), (2, .ref 30), (1, .ref 0), (0, .float 0)] [.int w_, .int w_] (ab_S nr2_ h2_ g2_ rr2_) _
  refine ab_icmp_eq (tgt := 1519) de_L_law_390 rfl (fun c_390_1 => ?_) (fun c_390_1 => ?_)
  · exact kk nr2_ h2_ g2_ rr2_ hA2_
  · exact absurd rfl c_390_1
set_option maxHeartbeats 1000000 in
set_option maxRecDepth 10000 in
theorem lc_element (l : Launch) {n : Nat} {xs : Nat → Int32} (hn : n ≤ 3072) {o : Nat} (ho : o + 6 ≤ n) (nr : Nat) (h : Nat → Nat → Int32) (g : Nat → Nat → Int64) (rr : Nat → Option Nat) (hA : jA nr h g rr) {kc ks : Nat} {K : Option Value → ab_Me → Prop} (kk : ∀ nr h g rr, jA nr h g rr → ab_G l (some (n, xs)) am_L 21 kc ks 1519 [(3, .int (nI o)), (2, .ref 30), (1, .ref 0), (0, .float 0)] [] (ab_S nr h g rr) K) : ab_G l (some (n, xs)) am_L 21 kc ks 395 [(3, .int (nI o)), (2, .ref 30), (1, .ref 0), (0, .float 0)] [] (ab_S nr h g rr) K := by
  obtain ⟨σ, q_, h0_, hC_, hD_⟩ := hA
  refine ab_aload_n de_L_law_395 2 rfl ?_
  refine ab_fload_n de_L_law_396 3 rfl ?_
  refine ab_iload_n de_L_law_397 0 rfl ?_
  refine ab_iconst (v := 1) de_L_law_398 rfl ?_
  refine ab_iadd de_L_law_399 ?_
  refine ab_top (v' := nI (o + 1)) (ab_add _ _) ?_
  refine ab_sld (v := xs (o + 1)) (ab_in (by omega) (by omega)) (congrArg xs (ab_tn (by omega))) de_L_law_400 ?_
  refine ab_fload_n de_L_law_401 3 rfl ?_
  refine ab_iload_n de_L_law_402 0 rfl ?_
  refine ab_iconst (v := 2) de_L_law_403 rfl ?_
  refine ab_iadd de_L_law_404 ?_
  refine ab_top (v' := nI (o + 2)) (ab_add _ _) ?_
  refine ab_sld (v := xs (o + 2)) (ab_in (by omega) (by omega)) (congrArg xs (ab_tn (by omega))) de_L_law_405 ?_
  refine ab_cV (as := [.int (xs (o + 1)), .int (xs (o + 2))]) (st := []) (js_element l h0_ hC_ hD_ (xs (o + 1)) (xs (o + 2))) mo_W_element mi_W_element ml_L_30 rfl (by decide) rfl rfl rfl (Nat.le_of_ble_eq_true rfl) de_L_law_406 (fun v_ M_ hK_ hl_ hv_ => ?_)
  obtain ⟨v1_, nr1_, h1_, g1_, rr1_, rfl, rfl, hM_⟩ := hK_
  obtain ⟨w_, hw_⟩ := (show ∃ x, some v1_ = some (.long x) from hv_)
  cases hw_
  change ab_G _ _ _ _ _ _ _ [(3, .int (nI o)), (2, .ref 30), (1, .ref 0), (0, .float 0)] [.long w_] (ab_S nr1_ h1_ g1_ rr1_) _
  refine ab_aload_n de_L_law_409 1 rfl ?_
  refine ab_fload_n de_L_law_410 3 rfl ?_
  refine ab_iload_n de_L_law_411 0 rfl ?_
  refine ab_iconst (v := 1) de_L_law_412 rfl ?_
  refine ab_iadd de_L_law_413 ?_
  refine ab_top (v' := nI (o + 1)) (ab_add _ _) ?_
  refine ab_sld (v := xs (o + 1)) (ab_in (by omega) (by omega)) (congrArg xs (ab_tn (by omega))) de_L_law_414 ?_
  refine ab_fload_n de_L_law_415 3 rfl ?_
  refine ab_iload_n de_L_law_416 0 rfl ?_
  refine ab_iconst (v := 2) de_L_law_417 rfl ?_
  refine ab_iadd de_L_law_418 ?_
  refine ab_top (v' := nI (o + 2)) (ab_add _ _) ?_
  refine ab_sld (v := xs (o + 2)) (ab_in (by omega) (by omega)) (congrArg xs (ab_tn (by omega))) de_L_law_419 ?_
  refine ab_cV (as := [.int (xs (o + 1)), .int (xs (o + 2))]) (st := [.long w_]) (hM_) mo_M_element mi_M_element ml_L_34 rfl (by decide) rfl rfl rfl (Nat.le_of_ble_eq_true rfl) de_L_law_420 (fun v_ M_ hK_ hl_ hv_ => ?_)
  obtain ⟨rfl, nr2_, h2_, g2_, rr2_, rfl, hA2_⟩ := hK_
  change ab_G _ _ _ _ _ _ _ [(3, .int (nI o)), (2, .ref 30), (1, .ref 0), (0, .float 0)] [.long w_, .long w_] (ab_S nr2_ h2_ g2_ rr2_) _
  refine ab_lcmp de_L_law_423 ?_
  refine ab_top (v' := (0 : Int32)) (lg_cmp_self _) ?_
  refine ab_if_eq (tgt := 1519) de_L_law_424 rfl (fun c_424_1 => ?_) (fun c_424_1 => ?_)
  · exact kk nr2_ h2_ g2_ rr2_ hA2_
  · exact absurd rfl c_424_1
set_option maxHeartbeats 1000000 in
set_option maxRecDepth 10000 in
theorem lc_show (l : Launch) {n : Nat} {xs : Nat → Int32} (hn : n ≤ 3072) {o : Nat} (ho : o + 6 ≤ n) (nr : Nat) (h : Nat → Nat → Int32) (g : Nat → Nat → Int64) (rr : Nat → Option Nat) (hA : jA nr h g rr) {kc ks : Nat} {K : Option Value → ab_Me → Prop} (kk : ∀ nr h g rr, jA nr h g rr → ab_G l (some (n, xs)) am_L 21 kc ks 1519 [(3, .int (nI o)), (2, .ref 30), (1, .ref 0), (0, .float 0)] [] (ab_S nr h g rr) K) : ab_G l (some (n, xs)) am_L 21 kc ks 429 [(3, .int (nI o)), (2, .ref 30), (1, .ref 0), (0, .float 0)] [] (ab_S nr h g rr) K := by
  obtain ⟨σ, q_, h0_, hC_, hD_⟩ := hA
  refine ab_aload_n de_L_law_429 2 rfl ?_
  refine ab_fload_n de_L_law_430 3 rfl ?_
  refine ab_iload_n de_L_law_431 0 rfl ?_
  refine ab_iconst (v := 1) de_L_law_432 rfl ?_
  refine ab_iadd de_L_law_433 ?_
  refine ab_top (v' := nI (o + 1)) (ab_add _ _) ?_
  refine ab_sld (v := xs (o + 1)) (ab_in (by omega) (by omega)) (congrArg xs (ab_tn (by omega))) de_L_law_434 ?_
  refine ab_fload_n de_L_law_435 3 rfl ?_
  refine ab_iload_n de_L_law_436 0 rfl ?_
  refine ab_iconst (v := 2) de_L_law_437 rfl ?_
  refine ab_iadd de_L_law_438 ?_
  refine ab_top (v' := nI (o + 2)) (ab_add _ _) ?_
  refine ab_sld (v := xs (o + 2)) (ab_in (by omega) (by omega)) (congrArg xs (ab_tn (by omega))) de_L_law_439 ?_
  refine ab_cV (as := [.int (xs (o + 1)), .int (xs (o + 2))]) (st := []) (js_show l h0_ hC_ hD_ (xs (o + 1)) (xs (o + 2))) mo_W_show mi_W_show ml_L_35 rfl (by decide) rfl rfl rfl (Nat.le_of_ble_eq_true rfl) de_L_law_440 (fun v_ M_ hK_ hl_ hv_ => ?_)
  obtain ⟨v1_, nr1_, h1_, g1_, rr1_, rfl, rfl, hM_⟩ := hK_
  obtain ⟨w_, hw_⟩ := (show ∃ x, some v1_ = some (.int x) from hv_)
  cases hw_
  change ab_G _ _ _ _ _ _ _ [(3, .int (nI o)), (2, .ref 30), (1, .ref 0), (0, .float 0)] [.int w_] (ab_S nr1_ h1_ g1_ rr1_) _
  refine ab_aload_n de_L_law_443 1 rfl ?_
  refine ab_fload_n de_L_law_444 3 rfl ?_
  refine ab_iload_n de_L_law_445 0 rfl ?_
  refine ab_iconst (v := 1) de_L_law_446 rfl ?_
  refine ab_iadd de_L_law_447 ?_
  refine ab_top (v' := nI (o + 1)) (ab_add _ _) ?_
  refine ab_sld (v := xs (o + 1)) (ab_in (by omega) (by omega)) (congrArg xs (ab_tn (by omega))) de_L_law_448 ?_
  refine ab_fload_n de_L_law_449 3 rfl ?_
  refine ab_iload_n de_L_law_450 0 rfl ?_
  refine ab_iconst (v := 2) de_L_law_451 rfl ?_
  refine ab_iadd de_L_law_452 ?_
  refine ab_top (v' := nI (o + 2)) (ab_add _ _) ?_
  refine ab_sld (v := xs (o + 2)) (ab_in (by omega) (by omega)) (congrArg xs (ab_tn (by omega))) de_L_law_453 ?_
  refine ab_cV (as := [.int (xs (o + 1)), .int (xs (o + 2))]) (st := [.int w_]) (hM_) mo_M_show mi_M_show ml_L_39 rfl (by decide) rfl rfl rfl (Nat.le_of_ble_eq_true rfl) de_L_law_454 (fun v_ M_ hK_ hl_ hv_ => ?_)
  obtain ⟨rfl, nr2_, h2_, g2_, rr2_, rfl, hA2_⟩ := hK_
  change ab_G _ _ _ _ _ _ _ [(3, .int (nI o)), (2, .ref 30), (1, .ref 0), (0, .float 0)] [.int w_, .int w_] (ab_S nr2_ h2_ g2_ rr2_) _
  refine ab_icmp_eq (tgt := 1519) de_L_law_457 rfl (fun c_457_1 => ?_) (fun c_457_1 => ?_)
  · exact kk nr2_ h2_ g2_ rr2_ hA2_
  · exact absurd rfl c_457_1
set_option maxHeartbeats 1000000 in
set_option maxRecDepth 10000 in
theorem lc_holds (l : Launch) {n : Nat} {xs : Nat → Int32} (hn : n ≤ 3072) {o : Nat} (ho : o + 6 ≤ n) (nr : Nat) (h : Nat → Nat → Int32) (g : Nat → Nat → Int64) (rr : Nat → Option Nat) (hA : jA nr h g rr) {kc ks : Nat} {K : Option Value → ab_Me → Prop} (kk : ∀ nr h g rr, jA nr h g rr → ab_G l (some (n, xs)) am_L 21 kc ks 1519 [(3, .int (nI o)), (2, .ref 30), (1, .ref 0), (0, .float 0)] [] (ab_S nr h g rr) K) : ab_G l (some (n, xs)) am_L 21 kc ks 462 [(3, .int (nI o)), (2, .ref 30), (1, .ref 0), (0, .float 0)] [] (ab_S nr h g rr) K := by
  obtain ⟨σ, q_, h0_, hC_, hD_⟩ := hA
  refine ab_aload_n de_L_law_462 2 rfl ?_
  refine ab_fload_n de_L_law_463 3 rfl ?_
  refine ab_iload_n de_L_law_464 0 rfl ?_
  refine ab_iconst (v := 1) de_L_law_465 rfl ?_
  refine ab_iadd de_L_law_466 ?_
  refine ab_top (v' := nI (o + 1)) (ab_add _ _) ?_
  refine ab_sld (v := xs (o + 1)) (ab_in (by omega) (by omega)) (congrArg xs (ab_tn (by omega))) de_L_law_467 ?_
  refine ab_cV (as := [.int (xs (o + 1))]) (st := []) (js_holds l h0_ hC_ hD_ (xs (o + 1))) mo_W_holds mi_W_holds ml_L_40 rfl (by decide) rfl rfl rfl (Nat.le_of_ble_eq_true rfl) de_L_law_468 (fun v_ M_ hK_ hl_ hv_ => ?_)
  obtain ⟨v1_, nr1_, h1_, g1_, rr1_, rfl, rfl, hM_⟩ := hK_
  obtain ⟨w_, hw_⟩ := (show ∃ x, some v1_ = some (.int x) from hv_)
  cases hw_
  change ab_G _ _ _ _ _ _ _ [(3, .int (nI o)), (2, .ref 30), (1, .ref 0), (0, .float 0)] [.int w_] (ab_S nr1_ h1_ g1_ rr1_) _
  refine ab_aload_n de_L_law_471 1 rfl ?_
  refine ab_fload_n de_L_law_472 3 rfl ?_
  refine ab_iload_n de_L_law_473 0 rfl ?_
  refine ab_iconst (v := 1) de_L_law_474 rfl ?_
  refine ab_iadd de_L_law_475 ?_
  refine ab_top (v' := nI (o + 1)) (ab_add _ _) ?_
  refine ab_sld (v := xs (o + 1)) (ab_in (by omega) (by omega)) (congrArg xs (ab_tn (by omega))) de_L_law_476 ?_
  refine ab_cV (as := [.int (xs (o + 1))]) (st := [.int w_]) (hM_) mo_M_holds mi_M_holds ml_L_44 rfl (by decide) rfl rfl rfl (Nat.le_of_ble_eq_true rfl) de_L_law_477 (fun v_ M_ hK_ hl_ hv_ => ?_)
  obtain ⟨rfl, nr2_, h2_, g2_, rr2_, rfl, hA2_⟩ := hK_
  change ab_G _ _ _ _ _ _ _ [(3, .int (nI o)), (2, .ref 30), (1, .ref 0), (0, .float 0)] [.int w_, .int w_] (ab_S nr2_ h2_ g2_ rr2_) _
  refine ab_icmp_eq (tgt := 1519) de_L_law_480 rfl (fun c_480_1 => ?_) (fun c_480_1 => ?_)
  · exact kk nr2_ h2_ g2_ rr2_ hA2_
  · exact absurd rfl c_480_1
set_option maxHeartbeats 1000000 in
set_option maxRecDepth 10000 in
theorem lc_says (l : Launch) {n : Nat} {xs : Nat → Int32} (hn : n ≤ 3072) {o : Nat} (ho : o + 6 ≤ n) (nr : Nat) (h : Nat → Nat → Int32) (g : Nat → Nat → Int64) (rr : Nat → Option Nat) (hA : jA nr h g rr) {kc ks : Nat} {K : Option Value → ab_Me → Prop} (kk : ∀ nr h g rr, jA nr h g rr → ab_G l (some (n, xs)) am_L 21 kc ks 1519 [(3, .int (nI o)), (2, .ref 30), (1, .ref 0), (0, .float 0)] [] (ab_S nr h g rr) K) : ab_G l (some (n, xs)) am_L 21 kc ks 485 [(3, .int (nI o)), (2, .ref 30), (1, .ref 0), (0, .float 0)] [] (ab_S nr h g rr) K := by
  obtain ⟨σ, q_, h0_, hC_, hD_⟩ := hA
  refine ab_aload_n de_L_law_485 2 rfl ?_
  refine ab_fload_n de_L_law_486 3 rfl ?_
  refine ab_iload_n de_L_law_487 0 rfl ?_
  refine ab_iconst (v := 1) de_L_law_488 rfl ?_
  refine ab_iadd de_L_law_489 ?_
  refine ab_top (v' := nI (o + 1)) (ab_add _ _) ?_
  refine ab_sld (v := xs (o + 1)) (ab_in (by omega) (by omega)) (congrArg xs (ab_tn (by omega))) de_L_law_490 ?_
  refine ab_fload_n de_L_law_491 3 rfl ?_
  refine ab_iload_n de_L_law_492 0 rfl ?_
  refine ab_iconst (v := 2) de_L_law_493 rfl ?_
  refine ab_iadd de_L_law_494 ?_
  refine ab_top (v' := nI (o + 2)) (ab_add _ _) ?_
  refine ab_sld (v := xs (o + 2)) (ab_in (by omega) (by omega)) (congrArg xs (ab_tn (by omega))) de_L_law_495 ?_
  refine ab_cV (as := [.int (xs (o + 1)), .int (xs (o + 2))]) (st := []) (js_says l h0_ hC_ hD_ (xs (o + 1)) (xs (o + 2))) mo_W_says mi_W_says ml_L_45 rfl (by decide) rfl rfl rfl (Nat.le_of_ble_eq_true rfl) de_L_law_496 (fun v_ M_ hK_ hl_ hv_ => ?_)
  obtain ⟨v1_, nr1_, h1_, g1_, rr1_, rfl, rfl, hM_⟩ := hK_
  obtain ⟨w_, hw_⟩ := (show ∃ x, some v1_ = some (.int x) from hv_)
  cases hw_
  change ab_G _ _ _ _ _ _ _ [(3, .int (nI o)), (2, .ref 30), (1, .ref 0), (0, .float 0)] [.int w_] (ab_S nr1_ h1_ g1_ rr1_) _
  refine ab_aload_n de_L_law_499 1 rfl ?_
  refine ab_fload_n de_L_law_500 3 rfl ?_
  refine ab_iload_n de_L_law_501 0 rfl ?_
  refine ab_iconst (v := 1) de_L_law_502 rfl ?_
  refine ab_iadd de_L_law_503 ?_
  refine ab_top (v' := nI (o + 1)) (ab_add _ _) ?_
  refine ab_sld (v := xs (o + 1)) (ab_in (by omega) (by omega)) (congrArg xs (ab_tn (by omega))) de_L_law_504 ?_
  refine ab_fload_n de_L_law_505 3 rfl ?_
  refine ab_iload_n de_L_law_506 0 rfl ?_
  refine ab_iconst (v := 2) de_L_law_507 rfl ?_
  refine ab_iadd de_L_law_508 ?_
  refine ab_top (v' := nI (o + 2)) (ab_add _ _) ?_
  refine ab_sld (v := xs (o + 2)) (ab_in (by omega) (by omega)) (congrArg xs (ab_tn (by omega))) de_L_law_509 ?_
  refine ab_cV (as := [.int (xs (o + 1)), .int (xs (o + 2))]) (st := [.int w_]) (hM_) mo_M_says mi_M_says ml_L_48 rfl (by decide) rfl rfl rfl (Nat.le_of_ble_eq_true rfl) de_L_law_510 (fun v_ M_ hK_ hl_ hv_ => ?_)
  obtain ⟨rfl, nr2_, h2_, g2_, rr2_, rfl, hA2_⟩ := hK_
  change ab_G _ _ _ _ _ _ _ [(3, .int (nI o)), (2, .ref 30), (1, .ref 0), (0, .float 0)] [.int w_, .int w_] (ab_S nr2_ h2_ g2_ rr2_) _
  refine ab_icmp_eq (tgt := 1519) de_L_law_513 rfl (fun c_513_1 => ?_) (fun c_513_1 => ?_)
  · exact kk nr2_ h2_ g2_ rr2_ hA2_
  · exact absurd rfl c_513_1
set_option maxHeartbeats 1000000 in
set_option maxRecDepth 10000 in
theorem lc_tie (l : Launch) {n : Nat} {xs : Nat → Int32} (hn : n ≤ 3072) {o : Nat} (ho : o + 6 ≤ n) (nr : Nat) (h : Nat → Nat → Int32) (g : Nat → Nat → Int64) (rr : Nat → Option Nat) (hA : jA nr h g rr) {kc ks : Nat} {K : Option Value → ab_Me → Prop} (kk : ∀ nr h g rr, jA nr h g rr → ab_G l (some (n, xs)) am_L 21 kc ks 1519 [(3, .int (nI o)), (2, .ref 30), (1, .ref 0), (0, .float 0)] [] (ab_S nr h g rr) K) : ab_G l (some (n, xs)) am_L 21 kc ks 518 [(3, .int (nI o)), (2, .ref 30), (1, .ref 0), (0, .float 0)] [] (ab_S nr h g rr) K := by
  obtain ⟨σ, q_, h0_, hC_, hD_⟩ := hA
  refine ab_aload_n de_L_law_518 2 rfl ?_
  refine ab_fload_n de_L_law_519 3 rfl ?_
  refine ab_iload_n de_L_law_520 0 rfl ?_
  refine ab_iconst (v := 1) de_L_law_521 rfl ?_
  refine ab_iadd de_L_law_522 ?_
  refine ab_top (v' := nI (o + 1)) (ab_add _ _) ?_
  refine ab_sld (v := xs (o + 1)) (ab_in (by omega) (by omega)) (congrArg xs (ab_tn (by omega))) de_L_law_523 ?_
  refine ab_fload_n de_L_law_524 3 rfl ?_
  refine ab_iload_n de_L_law_525 0 rfl ?_
  refine ab_iconst (v := 2) de_L_law_526 rfl ?_
  refine ab_iadd de_L_law_527 ?_
  refine ab_top (v' := nI (o + 2)) (ab_add _ _) ?_
  refine ab_sld (v := xs (o + 2)) (ab_in (by omega) (by omega)) (congrArg xs (ab_tn (by omega))) de_L_law_528 ?_
  refine ab_fload_n de_L_law_529 3 rfl ?_
  refine ab_iload_n de_L_law_530 0 rfl ?_
  refine ab_iconst (v := 3) de_L_law_531 rfl ?_
  refine ab_iadd de_L_law_532 ?_
  refine ab_top (v' := nI (o + 3)) (ab_add _ _) ?_
  refine ab_sld (v := xs (o + 3)) (ab_in (by omega) (by omega)) (congrArg xs (ab_tn (by omega))) de_L_law_533 ?_
  refine ab_fload_n de_L_law_534 3 rfl ?_
  refine ab_iload_n de_L_law_535 0 rfl ?_
  refine ab_iconst (v := 4) de_L_law_536 rfl ?_
  refine ab_iadd de_L_law_537 ?_
  refine ab_top (v' := nI (o + 4)) (ab_add _ _) ?_
  refine ab_sld (v := xs (o + 4)) (ab_in (by omega) (by omega)) (congrArg xs (ab_tn (by omega))) de_L_law_538 ?_
  refine ab_if_eq (tgt := 546) de_L_law_539 rfl (fun c_539_1 => ?_) (fun c_539_1 => ?_)
  · refine ab_iconst (v := 0) de_L_law_546 rfl ?_
    refine ab_cV (as := [.int (xs (o + 1)), .int (xs (o + 2)), .int (xs (o + 3)), .int (0 : Int32)]) (st := []) (js_tie l h0_ hC_ hD_ (xs (o + 1)) (xs (o + 2)) (xs (o + 3)) (0 : Int32)) mo_W_tie mi_W_tie ml_L_49 rfl (by decide) rfl rfl rfl (Nat.le_of_ble_eq_true rfl) de_L_law_547 (fun v_ M_ hK_ hl_ hv_ => ?_)
    obtain ⟨v1_, nr1_, h1_, g1_, rr1_, rfl, rfl, hM_⟩ := hK_
    obtain ⟨w_, hw_⟩ := (show ∃ x, some v1_ = some (.int x) from hv_)
    cases hw_
    change ab_G _ _ _ _ _ _ _ [(3, .int (nI o)), (2, .ref 30), (1, .ref 0), (0, .float 0)] [.int w_] (ab_S nr1_ h1_ g1_ rr1_) _
    refine ab_aload_n de_L_law_550 1 rfl ?_
    refine ab_fload_n de_L_law_551 3 rfl ?_
    refine ab_iload_n de_L_law_552 0 rfl ?_
    refine ab_iconst (v := 1) de_L_law_553 rfl ?_
    refine ab_iadd de_L_law_554 ?_
    refine ab_top (v' := nI (o + 1)) (ab_add _ _) ?_
    refine ab_sld (v := xs (o + 1)) (ab_in (by omega) (by omega)) (congrArg xs (ab_tn (by omega))) de_L_law_555 ?_
    refine ab_fload_n de_L_law_556 3 rfl ?_
    refine ab_iload_n de_L_law_557 0 rfl ?_
    refine ab_iconst (v := 2) de_L_law_558 rfl ?_
    refine ab_iadd de_L_law_559 ?_
    refine ab_top (v' := nI (o + 2)) (ab_add _ _) ?_
    refine ab_sld (v := xs (o + 2)) (ab_in (by omega) (by omega)) (congrArg xs (ab_tn (by omega))) de_L_law_560 ?_
    refine ab_fload_n de_L_law_561 3 rfl ?_
    refine ab_iload_n de_L_law_562 0 rfl ?_
    refine ab_iconst (v := 3) de_L_law_563 rfl ?_
    refine ab_iadd de_L_law_564 ?_
    refine ab_top (v' := nI (o + 3)) (ab_add _ _) ?_
    refine ab_sld (v := xs (o + 3)) (ab_in (by omega) (by omega)) (congrArg xs (ab_tn (by omega))) de_L_law_565 ?_
    refine ab_fload_n de_L_law_566 3 rfl ?_
    refine ab_iload_n de_L_law_567 0 rfl ?_
    refine ab_iconst (v := 4) de_L_law_568 rfl ?_
    refine ab_iadd de_L_law_569 ?_
    refine ab_top (v' := nI (o + 4)) (ab_add _ _) ?_
    refine ab_sld (v := xs (o + 4)) (ab_in (by omega) (by omega)) (congrArg xs (ab_tn (by omega))) de_L_law_570 ?_
    refine ab_if_eq (tgt := 578) de_L_law_571 rfl (fun c_571_2 => ?_) (fun c_571_2 => ?_)
    · refine ab_iconst (v := 0) de_L_law_578 rfl ?_
      refine ab_cV (as := [.int (xs (o + 1)), .int (xs (o + 2)), .int (xs (o + 3)), .int (0 : Int32)]) (st := [.int w_]) (hM_) mo_M_tie mi_M_tie ml_L_53 rfl (by decide) rfl rfl rfl (Nat.le_of_ble_eq_true rfl) de_L_law_579 (fun v_ M_ hK_ hl_ hv_ => ?_)
      obtain ⟨rfl, nr2_, h2_, g2_, rr2_, rfl, hA2_⟩ := hK_
      change ab_G _ _ _ _ _ _ _ [(3, .int (nI o)), (2, .ref 30), (1, .ref 0), (0, .float 0)] [.int w_, .int w_] (ab_S nr2_ h2_ g2_ rr2_) _
      refine ab_icmp_eq (tgt := 1519) de_L_law_582 rfl (fun c_582_3 => ?_) (fun c_582_3 => ?_)
      · exact kk nr2_ h2_ g2_ rr2_ hA2_
      · exact absurd rfl c_582_3
    · exact absurd c_539_1 c_571_2
  · refine ab_iconst (v := 1) de_L_law_542 rfl ?_
    refine ab_goto (tgt := 547) de_L_law_543 rfl ?_
    refine ab_cV (as := [.int (xs (o + 1)), .int (xs (o + 2)), .int (xs (o + 3)), .int (1 : Int32)]) (st := []) (js_tie l h0_ hC_ hD_ (xs (o + 1)) (xs (o + 2)) (xs (o + 3)) (1 : Int32)) mo_W_tie mi_W_tie ml_L_49 rfl (by decide) rfl rfl rfl (Nat.le_of_ble_eq_true rfl) de_L_law_547 (fun v_ M_ hK_ hl_ hv_ => ?_)
    obtain ⟨v1_, nr1_, h1_, g1_, rr1_, rfl, rfl, hM_⟩ := hK_
    obtain ⟨w_, hw_⟩ := (show ∃ x, some v1_ = some (.int x) from hv_)
    cases hw_
    change ab_G _ _ _ _ _ _ _ [(3, .int (nI o)), (2, .ref 30), (1, .ref 0), (0, .float 0)] [.int w_] (ab_S nr1_ h1_ g1_ rr1_) _
    refine ab_aload_n de_L_law_550 1 rfl ?_
    refine ab_fload_n de_L_law_551 3 rfl ?_
    refine ab_iload_n de_L_law_552 0 rfl ?_
    refine ab_iconst (v := 1) de_L_law_553 rfl ?_
    refine ab_iadd de_L_law_554 ?_
    refine ab_top (v' := nI (o + 1)) (ab_add _ _) ?_
    refine ab_sld (v := xs (o + 1)) (ab_in (by omega) (by omega)) (congrArg xs (ab_tn (by omega))) de_L_law_555 ?_
    refine ab_fload_n de_L_law_556 3 rfl ?_
    refine ab_iload_n de_L_law_557 0 rfl ?_
    refine ab_iconst (v := 2) de_L_law_558 rfl ?_
    refine ab_iadd de_L_law_559 ?_
    refine ab_top (v' := nI (o + 2)) (ab_add _ _) ?_
    refine ab_sld (v := xs (o + 2)) (ab_in (by omega) (by omega)) (congrArg xs (ab_tn (by omega))) de_L_law_560 ?_
    refine ab_fload_n de_L_law_561 3 rfl ?_
    refine ab_iload_n de_L_law_562 0 rfl ?_
    refine ab_iconst (v := 3) de_L_law_563 rfl ?_
    refine ab_iadd de_L_law_564 ?_
    refine ab_top (v' := nI (o + 3)) (ab_add _ _) ?_
    refine ab_sld (v := xs (o + 3)) (ab_in (by omega) (by omega)) (congrArg xs (ab_tn (by omega))) de_L_law_565 ?_
    refine ab_fload_n de_L_law_566 3 rfl ?_
    refine ab_iload_n de_L_law_567 0 rfl ?_
    refine ab_iconst (v := 4) de_L_law_568 rfl ?_
    refine ab_iadd de_L_law_569 ?_
    refine ab_top (v' := nI (o + 4)) (ab_add _ _) ?_
    refine ab_sld (v := xs (o + 4)) (ab_in (by omega) (by omega)) (congrArg xs (ab_tn (by omega))) de_L_law_570 ?_
    refine ab_if_eq (tgt := 578) de_L_law_571 rfl (fun c_571_4 => ?_) (fun c_571_4 => ?_)
    · exact absurd c_571_4 c_539_1
    · refine ab_iconst (v := 1) de_L_law_574 rfl ?_
      refine ab_goto (tgt := 579) de_L_law_575 rfl ?_
      refine ab_cV (as := [.int (xs (o + 1)), .int (xs (o + 2)), .int (xs (o + 3)), .int (1 : Int32)]) (st := [.int w_]) (hM_) mo_M_tie mi_M_tie ml_L_53 rfl (by decide) rfl rfl rfl (Nat.le_of_ble_eq_true rfl) de_L_law_579 (fun v_ M_ hK_ hl_ hv_ => ?_)
      obtain ⟨rfl, nr2_, h2_, g2_, rr2_, rfl, hA2_⟩ := hK_
      change ab_G _ _ _ _ _ _ _ [(3, .int (nI o)), (2, .ref 30), (1, .ref 0), (0, .float 0)] [.int w_, .int w_] (ab_S nr2_ h2_ g2_ rr2_) _
      refine ab_icmp_eq (tgt := 1519) de_L_law_582 rfl (fun c_582_5 => ?_) (fun c_582_5 => ?_)
      · exact kk nr2_ h2_ g2_ rr2_ hA2_
      · exact absurd rfl c_582_5
set_option maxHeartbeats 1000000 in
set_option maxRecDepth 10000 in
theorem lc_tied (l : Launch) {n : Nat} {xs : Nat → Int32} (hn : n ≤ 3072) {o : Nat} (ho : o + 6 ≤ n) (nr : Nat) (h : Nat → Nat → Int32) (g : Nat → Nat → Int64) (rr : Nat → Option Nat) (hA : jA nr h g rr) {kc ks : Nat} {K : Option Value → ab_Me → Prop} (kk : ∀ nr h g rr, jA nr h g rr → ab_G l (some (n, xs)) am_L 21 kc ks 1519 [(3, .int (nI o)), (2, .ref 30), (1, .ref 0), (0, .float 0)] [] (ab_S nr h g rr) K) : ab_G l (some (n, xs)) am_L 21 kc ks 587 [(3, .int (nI o)), (2, .ref 30), (1, .ref 0), (0, .float 0)] [] (ab_S nr h g rr) K := by
  obtain ⟨σ, q_, h0_, hC_, hD_⟩ := hA
  refine ab_aload_n de_L_law_587 2 rfl ?_
  refine ab_fload_n de_L_law_588 3 rfl ?_
  refine ab_iload_n de_L_law_589 0 rfl ?_
  refine ab_iconst (v := 1) de_L_law_590 rfl ?_
  refine ab_iadd de_L_law_591 ?_
  refine ab_top (v' := nI (o + 1)) (ab_add _ _) ?_
  refine ab_sld (v := xs (o + 1)) (ab_in (by omega) (by omega)) (congrArg xs (ab_tn (by omega))) de_L_law_592 ?_
  refine ab_fload_n de_L_law_593 3 rfl ?_
  refine ab_iload_n de_L_law_594 0 rfl ?_
  refine ab_iconst (v := 2) de_L_law_595 rfl ?_
  refine ab_iadd de_L_law_596 ?_
  refine ab_top (v' := nI (o + 2)) (ab_add _ _) ?_
  refine ab_sld (v := xs (o + 2)) (ab_in (by omega) (by omega)) (congrArg xs (ab_tn (by omega))) de_L_law_597 ?_
  refine ab_cV (as := [.int (xs (o + 1)), .int (xs (o + 2))]) (st := []) (js_tied l h0_ hC_ hD_ (xs (o + 1)) (xs (o + 2))) mo_W_tied mi_W_tied ml_L_54 rfl (by decide) rfl rfl rfl (Nat.le_of_ble_eq_true rfl) de_L_law_598 (fun v_ M_ hK_ hl_ hv_ => ?_)
  obtain ⟨v1_, nr1_, h1_, g1_, rr1_, rfl, rfl, hM_⟩ := hK_
  obtain ⟨w_, hw_⟩ := (show ∃ x, some v1_ = some (.int x) from hv_)
  cases hw_
  change ab_G _ _ _ _ _ _ _ [(3, .int (nI o)), (2, .ref 30), (1, .ref 0), (0, .float 0)] [.int w_] (ab_S nr1_ h1_ g1_ rr1_) _
  refine ab_aload_n de_L_law_601 1 rfl ?_
  refine ab_fload_n de_L_law_602 3 rfl ?_
  refine ab_iload_n de_L_law_603 0 rfl ?_
  refine ab_iconst (v := 1) de_L_law_604 rfl ?_
  refine ab_iadd de_L_law_605 ?_
  refine ab_top (v' := nI (o + 1)) (ab_add _ _) ?_
  refine ab_sld (v := xs (o + 1)) (ab_in (by omega) (by omega)) (congrArg xs (ab_tn (by omega))) de_L_law_606 ?_
  refine ab_fload_n de_L_law_607 3 rfl ?_
  refine ab_iload_n de_L_law_608 0 rfl ?_
  refine ab_iconst (v := 2) de_L_law_609 rfl ?_
  refine ab_iadd de_L_law_610 ?_
  refine ab_top (v' := nI (o + 2)) (ab_add _ _) ?_
  refine ab_sld (v := xs (o + 2)) (ab_in (by omega) (by omega)) (congrArg xs (ab_tn (by omega))) de_L_law_611 ?_
  refine ab_cV (as := [.int (xs (o + 1)), .int (xs (o + 2))]) (st := [.int w_]) (hM_) mo_M_tied mi_M_tied ml_L_57 rfl (by decide) rfl rfl rfl (Nat.le_of_ble_eq_true rfl) de_L_law_612 (fun v_ M_ hK_ hl_ hv_ => ?_)
  obtain ⟨rfl, nr2_, h2_, g2_, rr2_, rfl, hA2_⟩ := hK_
  change ab_G _ _ _ _ _ _ _ [(3, .int (nI o)), (2, .ref 30), (1, .ref 0), (0, .float 0)] [.int w_, .int w_] (ab_S nr2_ h2_ g2_ rr2_) _
  refine ab_icmp_eq (tgt := 1519) de_L_law_615 rfl (fun c_615_1 => ?_) (fun c_615_1 => ?_)
  · exact kk nr2_ h2_ g2_ rr2_ hA2_
  · exact absurd rfl c_615_1
set_option maxHeartbeats 1000000 in
set_option maxRecDepth 10000 in
theorem lc_rule (l : Launch) {n : Nat} {xs : Nat → Int32} (hn : n ≤ 3072) {o : Nat} (ho : o + 6 ≤ n) (nr : Nat) (h : Nat → Nat → Int32) (g : Nat → Nat → Int64) (rr : Nat → Option Nat) (hA : jA nr h g rr) {kc ks : Nat} {K : Option Value → ab_Me → Prop} (kk : ∀ nr h g rr, jA nr h g rr → ab_G l (some (n, xs)) am_L 21 kc ks 1519 [(3, .int (nI o)), (2, .ref 30), (1, .ref 0), (0, .float 0)] [] (ab_S nr h g rr) K) : ab_G l (some (n, xs)) am_L 21 (1 + kc) (5 + ks) 620 [(3, .int (nI o)), (2, .ref 30), (1, .ref 0), (0, .float 0)] [] (ab_S nr h g rr) K := by
  obtain ⟨σ, q_, h0_, hC_, hD_⟩ := hA
  refine ab_aload_n de_L_law_620 2 rfl ?_
  refine ab_fload_n de_L_law_621 3 rfl ?_
  refine ab_iload_n de_L_law_622 0 rfl ?_
  refine ab_iconst (v := 1) de_L_law_623 rfl ?_
  refine ab_iadd de_L_law_624 ?_
  refine ab_top (v' := nI (o + 1)) (ab_add _ _) ?_
  refine ab_sld (v := xs (o + 1)) (ab_in (by omega) (by omega)) (congrArg xs (ab_tn (by omega))) de_L_law_625 ?_
  refine ab_callVX (as := [.int (xs (o + 1))]) (st := []) (kc1 := 1) (ks1 := 5) (js_rule l h0_ hC_ hD_ (xs (o + 1))) mo_W_rule mi_W_rule.1 mi_W_rule.2 ml_L_58 rfl (by decide) rfl rfl rfl (Nat.le_of_ble_eq_true rfl) (Or.inr rfl) (Or.inr (ab_lL nr h g rr o)) de_L_law_626 (fun v_ M_ hK_ hl1_ hl2_ hv_ => ?_)
  obtain ⟨v1_, nr1_, h1_, g1_, rr1_, rfl, rfl, hM_⟩ := hK_
  obtain ⟨w_, hw_⟩ := (show ∃ x, some v1_ = some (.int x) from hv_)
  cases hw_
  change ab_G _ _ _ _ _ _ _ [(3, .int (nI o)), (2, .ref 30), (1, .ref 0), (0, .float 0)] [.int w_] (ab_S nr1_ h1_ g1_ rr1_) _
  refine ab_aload_n de_L_law_629 1 rfl ?_
  refine ab_fload_n de_L_law_630 3 rfl ?_
  refine ab_iload_n de_L_law_631 0 rfl ?_
  refine ab_iconst (v := 1) de_L_law_632 rfl ?_
  refine ab_iadd de_L_law_633 ?_
  refine ab_top (v' := nI (o + 1)) (ab_add _ _) ?_
  refine ab_sld (v := xs (o + 1)) (ab_in (by omega) (by omega)) (congrArg xs (ab_tn (by omega))) de_L_law_634 ?_
  refine ab_cV (as := [.int (xs (o + 1))]) (st := [.int w_]) (hM_) mo_M_rule mi_M_rule ml_L_61 rfl (by decide) rfl rfl rfl (Nat.le_of_ble_eq_true rfl) de_L_law_635 (fun v_ M_ hK_ hl_ hv_ => ?_)
  obtain ⟨rfl, nr2_, h2_, g2_, rr2_, rfl, hA2_⟩ := hK_
  change ab_G _ _ _ _ _ _ _ [(3, .int (nI o)), (2, .ref 30), (1, .ref 0), (0, .float 0)] [.int w_, .int w_] (ab_S nr2_ h2_ g2_ rr2_) _
  refine ab_icmp_eq (tgt := 1519) de_L_law_638 rfl (fun c_638_1 => ?_) (fun c_638_1 => ?_)
  · exact kk nr2_ h2_ g2_ rr2_ hA2_
  · exact absurd rfl c_638_1
set_option maxHeartbeats 1000000 in
set_option maxRecDepth 10000 in
theorem lc_fault (l : Launch) {n : Nat} {xs : Nat → Int32} (hn : n ≤ 3072) {o : Nat} (ho : o + 6 ≤ n) (nr : Nat) (h : Nat → Nat → Int32) (g : Nat → Nat → Int64) (rr : Nat → Option Nat) (hA : jA nr h g rr) {kc ks : Nat} {K : Option Value → ab_Me → Prop} (kk : ∀ nr h g rr, jA nr h g rr → ab_G l (some (n, xs)) am_L 21 kc ks 1519 [(3, .int (nI o)), (2, .ref 30), (1, .ref 0), (0, .float 0)] [] (ab_S nr h g rr) K) : ab_G l (some (n, xs)) am_L 21 kc ks 643 [(3, .int (nI o)), (2, .ref 30), (1, .ref 0), (0, .float 0)] [] (ab_S nr h g rr) K := by
  obtain ⟨σ, q_, h0_, hC_, hD_⟩ := hA
  refine ab_aload_n de_L_law_643 2 rfl ?_
  refine ab_cV (as := []) (st := []) (js_fault l h0_ hC_ hD_) mo_W_fault mi_W_fault ml_L_62 rfl (by decide) rfl rfl rfl (Nat.le_of_ble_eq_true rfl) de_L_law_644 (fun v_ M_ hK_ hl_ hv_ => ?_)
  obtain ⟨v1_, nr1_, h1_, g1_, rr1_, rfl, rfl, hM_⟩ := hK_
  obtain ⟨w_, hw_⟩ := (show ∃ x, some v1_ = some (.int x) from hv_)
  cases hw_
  change ab_G _ _ _ _ _ _ _ [(3, .int (nI o)), (2, .ref 30), (1, .ref 0), (0, .float 0)] [.int w_] (ab_S nr1_ h1_ g1_ rr1_) _
  refine ab_aload_n de_L_law_647 1 rfl ?_
  refine ab_cV (as := []) (st := [.int w_]) (hM_) mo_M_fault mi_M_fault ml_L_66 rfl (by decide) rfl rfl rfl (Nat.le_of_ble_eq_true rfl) de_L_law_648 (fun v_ M_ hK_ hl_ hv_ => ?_)
  obtain ⟨rfl, nr2_, h2_, g2_, rr2_, rfl, hA2_⟩ := hK_
  change ab_G _ _ _ _ _ _ _ [(3, .int (nI o)), (2, .ref 30), (1, .ref 0), (0, .float 0)] [.int w_, .int w_] (ab_S nr2_ h2_ g2_ rr2_) _
  refine ab_icmp_eq (tgt := 1519) de_L_law_651 rfl (fun c_651_1 => ?_) (fun c_651_1 => ?_)
  · exact kk nr2_ h2_ g2_ rr2_ hA2_
  · exact absurd rfl c_651_1
set_option maxHeartbeats 1000000 in
set_option maxRecDepth 10000 in
theorem lc_ruleOf (l : Launch) {n : Nat} {xs : Nat → Int32} (hn : n ≤ 3072) {o : Nat} (ho : o + 6 ≤ n) (nr : Nat) (h : Nat → Nat → Int32) (g : Nat → Nat → Int64) (rr : Nat → Option Nat) (hA : jA nr h g rr) {kc ks : Nat} {K : Option Value → ab_Me → Prop} (kk : ∀ nr h g rr, jA nr h g rr → ab_G l (some (n, xs)) am_L 21 kc ks 1519 [(3, .int (nI o)), (2, .ref 30), (1, .ref 0), (0, .float 0)] [] (ab_S nr h g rr) K) : ab_G l (some (n, xs)) am_L 21 kc ks 656 [(3, .int (nI o)), (2, .ref 30), (1, .ref 0), (0, .float 0)] [] (ab_S nr h g rr) K := by
  obtain ⟨σ, q_, h0_, hC_, hD_⟩ := hA
  refine ab_aload_n de_L_law_656 2 rfl ?_
  refine ab_fload_n de_L_law_657 3 rfl ?_
  refine ab_iload_n de_L_law_658 0 rfl ?_
  refine ab_iconst (v := 1) de_L_law_659 rfl ?_
  refine ab_iadd de_L_law_660 ?_
  refine ab_top (v' := nI (o + 1)) (ab_add _ _) ?_
  refine ab_sld (v := xs (o + 1)) (ab_in (by omega) (by omega)) (congrArg xs (ab_tn (by omega))) de_L_law_661 ?_
  refine ab_fload_n de_L_law_662 3 rfl ?_
  refine ab_iload_n de_L_law_663 0 rfl ?_
  refine ab_iconst (v := 2) de_L_law_664 rfl ?_
  refine ab_iadd de_L_law_665 ?_
  refine ab_top (v' := nI (o + 2)) (ab_add _ _) ?_
  refine ab_sld (v := xs (o + 2)) (ab_in (by omega) (by omega)) (congrArg xs (ab_tn (by omega))) de_L_law_666 ?_
  refine ab_cV (as := [.int (xs (o + 1)), .int (xs (o + 2))]) (st := []) (js_ruleOf l h0_ hC_ hD_ (xs (o + 1)) (xs (o + 2))) mo_W_ruleOf mi_W_ruleOf ml_L_67 rfl (by decide) rfl rfl rfl (Nat.le_of_ble_eq_true rfl) de_L_law_667 (fun v_ M_ hK_ hl_ hv_ => ?_)
  obtain ⟨v1_, nr1_, h1_, g1_, rr1_, rfl, rfl, hM_⟩ := hK_
  obtain ⟨w_, hw_⟩ := (show ∃ x, some v1_ = some (.int x) from hv_)
  cases hw_
  change ab_G _ _ _ _ _ _ _ [(3, .int (nI o)), (2, .ref 30), (1, .ref 0), (0, .float 0)] [.int w_] (ab_S nr1_ h1_ g1_ rr1_) _
  refine ab_aload_n de_L_law_670 1 rfl ?_
  refine ab_fload_n de_L_law_671 3 rfl ?_
  refine ab_iload_n de_L_law_672 0 rfl ?_
  refine ab_iconst (v := 1) de_L_law_673 rfl ?_
  refine ab_iadd de_L_law_674 ?_
  refine ab_top (v' := nI (o + 1)) (ab_add _ _) ?_
  refine ab_sld (v := xs (o + 1)) (ab_in (by omega) (by omega)) (congrArg xs (ab_tn (by omega))) de_L_law_675 ?_
  refine ab_fload_n de_L_law_676 3 rfl ?_
  refine ab_iload_n de_L_law_677 0 rfl ?_
  refine ab_iconst (v := 2) de_L_law_678 rfl ?_
  refine ab_iadd de_L_law_679 ?_
  refine ab_top (v' := nI (o + 2)) (ab_add _ _) ?_
  refine ab_sld (v := xs (o + 2)) (ab_in (by omega) (by omega)) (congrArg xs (ab_tn (by omega))) de_L_law_680 ?_
  refine ab_cV (as := [.int (xs (o + 1)), .int (xs (o + 2))]) (st := [.int w_]) (hM_) mo_M_ruleOf mi_M_ruleOf ml_L_70 rfl (by decide) rfl rfl rfl (Nat.le_of_ble_eq_true rfl) de_L_law_681 (fun v_ M_ hK_ hl_ hv_ => ?_)
  obtain ⟨rfl, nr2_, h2_, g2_, rr2_, rfl, hA2_⟩ := hK_
  change ab_G _ _ _ _ _ _ _ [(3, .int (nI o)), (2, .ref 30), (1, .ref 0), (0, .float 0)] [.int w_, .int w_] (ab_S nr2_ h2_ g2_ rr2_) _
  refine ab_icmp_eq (tgt := 1519) de_L_law_684 rfl (fun c_684_1 => ?_) (fun c_684_1 => ?_)
  · exact kk nr2_ h2_ g2_ rr2_ hA2_
  · exact absurd rfl c_684_1
set_option maxHeartbeats 1000000 in
set_option maxRecDepth 10000 in
theorem lc_price (l : Launch) {n : Nat} {xs : Nat → Int32} (hn : n ≤ 3072) {o : Nat} (ho : o + 6 ≤ n) (nr : Nat) (h : Nat → Nat → Int32) (g : Nat → Nat → Int64) (rr : Nat → Option Nat) (hA : jA nr h g rr) {kc ks : Nat} {K : Option Value → ab_Me → Prop} (kk : ∀ nr h g rr, jA nr h g rr → ab_G l (some (n, xs)) am_L 21 kc ks 1519 [(3, .int (nI o)), (2, .ref 30), (1, .ref 0), (0, .float 0)] [] (ab_S nr h g rr) K) : ab_G l (some (n, xs)) am_L 21 kc ks 689 [(3, .int (nI o)), (2, .ref 30), (1, .ref 0), (0, .float 0)] [] (ab_S nr h g rr) K := by
  obtain ⟨σ, q_, h0_, hC_, hD_⟩ := hA
  refine ab_aload_n de_L_law_689 2 rfl ?_
  refine ab_fload_n de_L_law_690 3 rfl ?_
  refine ab_iload_n de_L_law_691 0 rfl ?_
  refine ab_iconst (v := 1) de_L_law_692 rfl ?_
  refine ab_iadd de_L_law_693 ?_
  refine ab_top (v' := nI (o + 1)) (ab_add _ _) ?_
  refine ab_sld (v := xs (o + 1)) (ab_in (by omega) (by omega)) (congrArg xs (ab_tn (by omega))) de_L_law_694 ?_
  refine ab_cV (as := [.int (xs (o + 1))]) (st := []) (js_price l h0_ hC_ hD_ (xs (o + 1))) mo_W_price mi_W_price ml_L_71 rfl (by decide) rfl rfl rfl (Nat.le_of_ble_eq_true rfl) de_L_law_695 (fun v_ M_ hK_ hl_ hv_ => ?_)
  obtain ⟨v1_, nr1_, h1_, g1_, rr1_, rfl, rfl, hM_⟩ := hK_
  obtain ⟨w_, hw_⟩ := (show ∃ x, some v1_ = some (.int x) from hv_)
  cases hw_
  change ab_G _ _ _ _ _ _ _ [(3, .int (nI o)), (2, .ref 30), (1, .ref 0), (0, .float 0)] [.int w_] (ab_S nr1_ h1_ g1_ rr1_) _
  refine ab_aload_n de_L_law_698 1 rfl ?_
  refine ab_fload_n de_L_law_699 3 rfl ?_
  refine ab_iload_n de_L_law_700 0 rfl ?_
  refine ab_iconst (v := 1) de_L_law_701 rfl ?_
  refine ab_iadd de_L_law_702 ?_
  refine ab_top (v' := nI (o + 1)) (ab_add _ _) ?_
  refine ab_sld (v := xs (o + 1)) (ab_in (by omega) (by omega)) (congrArg xs (ab_tn (by omega))) de_L_law_703 ?_
  refine ab_cV (as := [.int (xs (o + 1))]) (st := [.int w_]) (hM_) mo_M_price mi_M_price ml_L_74 rfl (by decide) rfl rfl rfl (Nat.le_of_ble_eq_true rfl) de_L_law_704 (fun v_ M_ hK_ hl_ hv_ => ?_)
  obtain ⟨rfl, nr2_, h2_, g2_, rr2_, rfl, hA2_⟩ := hK_
  change ab_G _ _ _ _ _ _ _ [(3, .int (nI o)), (2, .ref 30), (1, .ref 0), (0, .float 0)] [.int w_, .int w_] (ab_S nr2_ h2_ g2_ rr2_) _
  refine ab_icmp_eq (tgt := 1519) de_L_law_707 rfl (fun c_707_1 => ?_) (fun c_707_1 => ?_)
  · exact kk nr2_ h2_ g2_ rr2_ hA2_
  · exact absurd rfl c_707_1
set_option maxHeartbeats 1000000 in
set_option maxRecDepth 10000 in
theorem lc_point (l : Launch) {n : Nat} {xs : Nat → Int32} (hn : n ≤ 3072) {o : Nat} (ho : o + 6 ≤ n) (nr : Nat) (h : Nat → Nat → Int32) (g : Nat → Nat → Int64) (rr : Nat → Option Nat) (hA : jA nr h g rr) {kc ks : Nat} {K : Option Value → ab_Me → Prop} (kk : ∀ nr h g rr, jA nr h g rr → ab_G l (some (n, xs)) am_L 21 kc ks 1519 [(3, .int (nI o)), (2, .ref 30), (1, .ref 0), (0, .float 0)] [] (ab_S nr h g rr) K) : ab_G l (some (n, xs)) am_L 21 kc ks 712 [(3, .int (nI o)), (2, .ref 30), (1, .ref 0), (0, .float 0)] [] (ab_S nr h g rr) K := by
  obtain ⟨σ, q_, h0_, hC_, hD_⟩ := hA
  refine ab_aload_n de_L_law_712 2 rfl ?_
  refine ab_fload_n de_L_law_713 3 rfl ?_
  refine ab_iload_n de_L_law_714 0 rfl ?_
  refine ab_iconst (v := 1) de_L_law_715 rfl ?_
  refine ab_iadd de_L_law_716 ?_
  refine ab_top (v' := nI (o + 1)) (ab_add _ _) ?_
  refine ab_sld (v := xs (o + 1)) (ab_in (by omega) (by omega)) (congrArg xs (ab_tn (by omega))) de_L_law_717 ?_
  refine ab_fload_n de_L_law_718 3 rfl ?_
  refine ab_iload_n de_L_law_719 0 rfl ?_
  refine ab_iconst (v := 2) de_L_law_720 rfl ?_
  refine ab_iadd de_L_law_721 ?_
  refine ab_top (v' := nI (o + 2)) (ab_add _ _) ?_
  refine ab_sld (v := xs (o + 2)) (ab_in (by omega) (by omega)) (congrArg xs (ab_tn (by omega))) de_L_law_722 ?_
  refine ab_cV (as := [.int (xs (o + 1)), .int (xs (o + 2))]) (st := []) (js_point l h0_ hC_ hD_ (xs (o + 1)) (xs (o + 2))) mo_W_point mi_W_point ml_L_75 rfl (by decide) rfl rfl rfl (Nat.le_of_ble_eq_true rfl) de_L_law_723 (fun v_ M_ hK_ hl_ hv_ => ?_)
  obtain ⟨v1_, nr1_, h1_, g1_, rr1_, rfl, rfl, hM_⟩ := hK_
  obtain ⟨w_, hw_⟩ := (show ∃ x, some v1_ = some (.int x) from hv_)
  cases hw_
  change ab_G _ _ _ _ _ _ _ [(3, .int (nI o)), (2, .ref 30), (1, .ref 0), (0, .float 0)] [.int w_] (ab_S nr1_ h1_ g1_ rr1_) _
  refine ab_aload_n de_L_law_726 1 rfl ?_
  refine ab_fload_n de_L_law_727 3 rfl ?_
  refine ab_iload_n de_L_law_728 0 rfl ?_
  refine ab_iconst (v := 1) de_L_law_729 rfl ?_
  refine ab_iadd de_L_law_730 ?_
  refine ab_top (v' := nI (o + 1)) (ab_add _ _) ?_
  refine ab_sld (v := xs (o + 1)) (ab_in (by omega) (by omega)) (congrArg xs (ab_tn (by omega))) de_L_law_731 ?_
  refine ab_fload_n de_L_law_732 3 rfl ?_
  refine ab_iload_n de_L_law_733 0 rfl ?_
  refine ab_iconst (v := 2) de_L_law_734 rfl ?_
  refine ab_iadd de_L_law_735 ?_
  refine ab_top (v' := nI (o + 2)) (ab_add _ _) ?_
  refine ab_sld (v := xs (o + 2)) (ab_in (by omega) (by omega)) (congrArg xs (ab_tn (by omega))) de_L_law_736 ?_
  refine ab_cV (as := [.int (xs (o + 1)), .int (xs (o + 2))]) (st := [.int w_]) (hM_) mo_M_point mi_M_point ml_L_78 rfl (by decide) rfl rfl rfl (Nat.le_of_ble_eq_true rfl) de_L_law_737 (fun v_ M_ hK_ hl_ hv_ => ?_)
  obtain ⟨rfl, nr2_, h2_, g2_, rr2_, rfl, hA2_⟩ := hK_
  change ab_G _ _ _ _ _ _ _ [(3, .int (nI o)), (2, .ref 30), (1, .ref 0), (0, .float 0)] [.int w_, .int w_] (ab_S nr2_ h2_ g2_ rr2_) _
  refine ab_icmp_eq (tgt := 1519) de_L_law_740 rfl (fun c_740_1 => ?_) (fun c_740_1 => ?_)
  · exact kk nr2_ h2_ g2_ rr2_ hA2_
  · exact absurd rfl c_740_1
set_option maxHeartbeats 1000000 in
set_option maxRecDepth 10000 in
theorem lc_turn (l : Launch) {n : Nat} {xs : Nat → Int32} (hn : n ≤ 3072) {o : Nat} (ho : o + 6 ≤ n) (nr : Nat) (h : Nat → Nat → Int32) (g : Nat → Nat → Int64) (rr : Nat → Option Nat) (hA : jA nr h g rr) {kc ks : Nat} {K : Option Value → ab_Me → Prop} (kk : ∀ nr h g rr, jA nr h g rr → ab_G l (some (n, xs)) am_L 21 kc ks 1519 [(3, .int (nI o)), (2, .ref 30), (1, .ref 0), (0, .float 0)] [] (ab_S nr h g rr) K) : ab_G l (some (n, xs)) am_L 21 kc ks 745 [(3, .int (nI o)), (2, .ref 30), (1, .ref 0), (0, .float 0)] [] (ab_S nr h g rr) K := by
  obtain ⟨σ, q_, h0_, hC_, hD_⟩ := hA
  refine ab_aload_n de_L_law_745 2 rfl ?_
  refine ab_fload_n de_L_law_746 3 rfl ?_
  refine ab_iload_n de_L_law_747 0 rfl ?_
  refine ab_iconst (v := 1) de_L_law_748 rfl ?_
  refine ab_iadd de_L_law_749 ?_
  refine ab_top (v' := nI (o + 1)) (ab_add _ _) ?_
  refine ab_sld (v := xs (o + 1)) (ab_in (by omega) (by omega)) (congrArg xs (ab_tn (by omega))) de_L_law_750 ?_
  refine ab_cV (as := [.int (xs (o + 1))]) (st := []) (js_turn l h0_ hC_ hD_ (xs (o + 1))) mo_W_turn mi_W_turn ml_L_79 rfl (by decide) rfl rfl rfl (Nat.le_of_ble_eq_true rfl) de_L_law_751 (fun v_ M_ hK_ hl_ hv_ => ?_)
  obtain ⟨v1_, nr1_, h1_, g1_, rr1_, rfl, rfl, hM_⟩ := hK_
  obtain ⟨w_, hw_⟩ := (show ∃ x, some v1_ = some (.int x) from hv_)
  cases hw_
  change ab_G _ _ _ _ _ _ _ [(3, .int (nI o)), (2, .ref 30), (1, .ref 0), (0, .float 0)] [.int w_] (ab_S nr1_ h1_ g1_ rr1_) _
  refine ab_aload_n de_L_law_754 1 rfl ?_
  refine ab_fload_n de_L_law_755 3 rfl ?_
  refine ab_iload_n de_L_law_756 0 rfl ?_
  refine ab_iconst (v := 1) de_L_law_757 rfl ?_
  refine ab_iadd de_L_law_758 ?_
  refine ab_top (v' := nI (o + 1)) (ab_add _ _) ?_
  refine ab_sld (v := xs (o + 1)) (ab_in (by omega) (by omega)) (congrArg xs (ab_tn (by omega))) de_L_law_759 ?_
  refine ab_cV (as := [.int (xs (o + 1))]) (st := [.int w_]) (hM_) mo_M_turn mi_M_turn ml_L_82 rfl (by decide) rfl rfl rfl (Nat.le_of_ble_eq_true rfl) de_L_law_760 (fun v_ M_ hK_ hl_ hv_ => ?_)
  obtain ⟨rfl, nr2_, h2_, g2_, rr2_, rfl, hA2_⟩ := hK_
  change ab_G _ _ _ _ _ _ _ [(3, .int (nI o)), (2, .ref 30), (1, .ref 0), (0, .float 0)] [.int w_, .int w_] (ab_S nr2_ h2_ g2_ rr2_) _
  refine ab_icmp_eq (tgt := 1519) de_L_law_763 rfl (fun c_763_1 => ?_) (fun c_763_1 => ?_)
  · exact kk nr2_ h2_ g2_ rr2_ hA2_
  · exact absurd rfl c_763_1
set_option maxHeartbeats 1000000 in
set_option maxRecDepth 10000 in
theorem lc_moves (l : Launch) {n : Nat} {xs : Nat → Int32} (hn : n ≤ 3072) {o : Nat} (ho : o + 6 ≤ n) (nr : Nat) (h : Nat → Nat → Int32) (g : Nat → Nat → Int64) (rr : Nat → Option Nat) (hA : jA nr h g rr) {kc ks : Nat} {K : Option Value → ab_Me → Prop} (kk : ∀ nr h g rr, jA nr h g rr → ab_G l (some (n, xs)) am_L 21 kc ks 1519 [(3, .int (nI o)), (2, .ref 30), (1, .ref 0), (0, .float 0)] [] (ab_S nr h g rr) K) : ab_G l (some (n, xs)) am_L 21 kc ks 768 [(3, .int (nI o)), (2, .ref 30), (1, .ref 0), (0, .float 0)] [] (ab_S nr h g rr) K := by
  obtain ⟨σ, q_, h0_, hC_, hD_⟩ := hA
  refine ab_aload_n de_L_law_768 2 rfl ?_
  refine ab_fload_n de_L_law_769 3 rfl ?_
  refine ab_iload_n de_L_law_770 0 rfl ?_
  refine ab_iconst (v := 1) de_L_law_771 rfl ?_
  refine ab_iadd de_L_law_772 ?_
  refine ab_top (v' := nI (o + 1)) (ab_add _ _) ?_
  refine ab_sld (v := xs (o + 1)) (ab_in (by omega) (by omega)) (congrArg xs (ab_tn (by omega))) de_L_law_773 ?_
  refine ab_cV (as := [.int (xs (o + 1))]) (st := []) (js_moves l h0_ hC_ hD_ (xs (o + 1))) mo_W_moves mi_W_moves ml_L_83 rfl (by decide) rfl rfl rfl (Nat.le_of_ble_eq_true rfl) de_L_law_774 (fun v_ M_ hK_ hl_ hv_ => ?_)
  obtain ⟨v1_, nr1_, h1_, g1_, rr1_, rfl, rfl, hM_⟩ := hK_
  obtain ⟨w_, hw_⟩ := (show ∃ x, some v1_ = some (.int x) from hv_)
  cases hw_
  change ab_G _ _ _ _ _ _ _ [(3, .int (nI o)), (2, .ref 30), (1, .ref 0), (0, .float 0)] [.int w_] (ab_S nr1_ h1_ g1_ rr1_) _
  refine ab_aload_n de_L_law_777 1 rfl ?_
  refine ab_fload_n de_L_law_778 3 rfl ?_
  refine ab_iload_n de_L_law_779 0 rfl ?_
  refine ab_iconst (v := 1) de_L_law_780 rfl ?_
  refine ab_iadd de_L_law_781 ?_
  refine ab_top (v' := nI (o + 1)) (ab_add _ _) ?_
  refine ab_sld (v := xs (o + 1)) (ab_in (by omega) (by omega)) (congrArg xs (ab_tn (by omega))) de_L_law_782 ?_
  refine ab_cV (as := [.int (xs (o + 1))]) (st := [.int w_]) (hM_) mo_M_moves mi_M_moves ml_L_86 rfl (by decide) rfl rfl rfl (Nat.le_of_ble_eq_true rfl) de_L_law_783 (fun v_ M_ hK_ hl_ hv_ => ?_)
  obtain ⟨rfl, nr2_, h2_, g2_, rr2_, rfl, hA2_⟩ := hK_
  change ab_G _ _ _ _ _ _ _ [(3, .int (nI o)), (2, .ref 30), (1, .ref 0), (0, .float 0)] [.int w_, .int w_] (ab_S nr2_ h2_ g2_ rr2_) _
  refine ab_icmp_eq (tgt := 1519) de_L_law_786 rfl (fun c_786_1 => ?_) (fun c_786_1 => ?_)
  · exact kk nr2_ h2_ g2_ rr2_ hA2_
  · exact absurd rfl c_786_1
set_option maxHeartbeats 1000000 in
set_option maxRecDepth 10000 in
theorem lc_move (l : Launch) {n : Nat} {xs : Nat → Int32} (hn : n ≤ 3072) {o : Nat} (ho : o + 6 ≤ n) (nr : Nat) (h : Nat → Nat → Int32) (g : Nat → Nat → Int64) (rr : Nat → Option Nat) (hA : jA nr h g rr) {kc ks : Nat} {K : Option Value → ab_Me → Prop} (kk : ∀ nr h g rr, jA nr h g rr → ab_G l (some (n, xs)) am_L 21 kc ks 1519 [(3, .int (nI o)), (2, .ref 30), (1, .ref 0), (0, .float 0)] [] (ab_S nr h g rr) K) : ab_G l (some (n, xs)) am_L 21 kc ks 791 [(3, .int (nI o)), (2, .ref 30), (1, .ref 0), (0, .float 0)] [] (ab_S nr h g rr) K := by
  obtain ⟨σ, q_, h0_, hC_, hD_⟩ := hA
  refine ab_aload_n de_L_law_791 2 rfl ?_
  refine ab_fload_n de_L_law_792 3 rfl ?_
  refine ab_iload_n de_L_law_793 0 rfl ?_
  refine ab_iconst (v := 1) de_L_law_794 rfl ?_
  refine ab_iadd de_L_law_795 ?_
  refine ab_top (v' := nI (o + 1)) (ab_add _ _) ?_
  refine ab_sld (v := xs (o + 1)) (ab_in (by omega) (by omega)) (congrArg xs (ab_tn (by omega))) de_L_law_796 ?_
  refine ab_fload_n de_L_law_797 3 rfl ?_
  refine ab_iload_n de_L_law_798 0 rfl ?_
  refine ab_iconst (v := 2) de_L_law_799 rfl ?_
  refine ab_iadd de_L_law_800 ?_
  refine ab_top (v' := nI (o + 2)) (ab_add _ _) ?_
  refine ab_sld (v := xs (o + 2)) (ab_in (by omega) (by omega)) (congrArg xs (ab_tn (by omega))) de_L_law_801 ?_
  refine ab_cV (as := [.int (xs (o + 1)), .int (xs (o + 2))]) (st := []) (js_move l h0_ hC_ hD_ (xs (o + 1)) (xs (o + 2))) mo_W_move mi_W_move ml_L_87 rfl (by decide) rfl rfl rfl (Nat.le_of_ble_eq_true rfl) de_L_law_802 (fun v_ M_ hK_ hl_ hv_ => ?_)
  obtain ⟨v1_, nr1_, h1_, g1_, rr1_, rfl, rfl, hM_⟩ := hK_
  obtain ⟨w_, hw_⟩ := (show ∃ x, some v1_ = some (.int x) from hv_)
  cases hw_
  change ab_G _ _ _ _ _ _ _ [(3, .int (nI o)), (2, .ref 30), (1, .ref 0), (0, .float 0)] [.int w_] (ab_S nr1_ h1_ g1_ rr1_) _
  refine ab_aload_n de_L_law_805 1 rfl ?_
  refine ab_fload_n de_L_law_806 3 rfl ?_
  refine ab_iload_n de_L_law_807 0 rfl ?_
  refine ab_iconst (v := 1) de_L_law_808 rfl ?_
  refine ab_iadd de_L_law_809 ?_
  refine ab_top (v' := nI (o + 1)) (ab_add _ _) ?_
  refine ab_sld (v := xs (o + 1)) (ab_in (by omega) (by omega)) (congrArg xs (ab_tn (by omega))) de_L_law_810 ?_
  refine ab_fload_n de_L_law_811 3 rfl ?_
  refine ab_iload_n de_L_law_812 0 rfl ?_
  refine ab_iconst (v := 2) de_L_law_813 rfl ?_
  refine ab_iadd de_L_law_814 ?_
  refine ab_top (v' := nI (o + 2)) (ab_add _ _) ?_
  refine ab_sld (v := xs (o + 2)) (ab_in (by omega) (by omega)) (congrArg xs (ab_tn (by omega))) de_L_law_815 ?_
  refine ab_cV (as := [.int (xs (o + 1)), .int (xs (o + 2))]) (st := [.int w_]) (hM_) mo_M_move mi_M_move ml_L_90 rfl (by decide) rfl rfl rfl (Nat.le_of_ble_eq_true rfl) de_L_law_816 (fun v_ M_ hK_ hl_ hv_ => ?_)
  obtain ⟨rfl, nr2_, h2_, g2_, rr2_, rfl, hA2_⟩ := hK_
  change ab_G _ _ _ _ _ _ _ [(3, .int (nI o)), (2, .ref 30), (1, .ref 0), (0, .float 0)] [.int w_, .int w_] (ab_S nr2_ h2_ g2_ rr2_) _
  refine ab_icmp_eq (tgt := 1519) de_L_law_819 rfl (fun c_819_1 => ?_) (fun c_819_1 => ?_)
  · exact kk nr2_ h2_ g2_ rr2_ hA2_
  · exact absurd rfl c_819_1
set_option maxHeartbeats 1000000 in
set_option maxRecDepth 10000 in
theorem lc_over (l : Launch) {n : Nat} {xs : Nat → Int32} (hn : n ≤ 3072) {o : Nat} (ho : o + 6 ≤ n) (nr : Nat) (h : Nat → Nat → Int32) (g : Nat → Nat → Int64) (rr : Nat → Option Nat) (hA : jA nr h g rr) {kc ks : Nat} {K : Option Value → ab_Me → Prop} (kk : ∀ nr h g rr, jA nr h g rr → ab_G l (some (n, xs)) am_L 21 kc ks 1519 [(3, .int (nI o)), (2, .ref 30), (1, .ref 0), (0, .float 0)] [] (ab_S nr h g rr) K) : ab_G l (some (n, xs)) am_L 21 kc ks 824 [(3, .int (nI o)), (2, .ref 30), (1, .ref 0), (0, .float 0)] [] (ab_S nr h g rr) K := by
  obtain ⟨σ, q_, h0_, hC_, hD_⟩ := hA
  refine ab_aload_n de_L_law_824 2 rfl ?_
  refine ab_fload_n de_L_law_825 3 rfl ?_
  refine ab_iload_n de_L_law_826 0 rfl ?_
  refine ab_iconst (v := 1) de_L_law_827 rfl ?_
  refine ab_iadd de_L_law_828 ?_
  refine ab_top (v' := nI (o + 1)) (ab_add _ _) ?_
  refine ab_sld (v := xs (o + 1)) (ab_in (by omega) (by omega)) (congrArg xs (ab_tn (by omega))) de_L_law_829 ?_
  refine ab_cV (as := [.int (xs (o + 1))]) (st := []) (js_over l h0_ hC_ hD_ (xs (o + 1))) mo_W_over mi_W_over ml_L_91 rfl (by decide) rfl rfl rfl (Nat.le_of_ble_eq_true rfl) de_L_law_830 (fun v_ M_ hK_ hl_ hv_ => ?_)
  obtain ⟨v1_, nr1_, h1_, g1_, rr1_, rfl, rfl, hM_⟩ := hK_
  obtain ⟨w_, hw_⟩ := (show ∃ x, some v1_ = some (.int x) from hv_)
  cases hw_
  change ab_G _ _ _ _ _ _ _ [(3, .int (nI o)), (2, .ref 30), (1, .ref 0), (0, .float 0)] [.int w_] (ab_S nr1_ h1_ g1_ rr1_) _
  refine ab_aload_n de_L_law_833 1 rfl ?_
  refine ab_fload_n de_L_law_834 3 rfl ?_
  refine ab_iload_n de_L_law_835 0 rfl ?_
  refine ab_iconst (v := 1) de_L_law_836 rfl ?_
  refine ab_iadd de_L_law_837 ?_
  refine ab_top (v' := nI (o + 1)) (ab_add _ _) ?_
  refine ab_sld (v := xs (o + 1)) (ab_in (by omega) (by omega)) (congrArg xs (ab_tn (by omega))) de_L_law_838 ?_
  refine ab_cV (as := [.int (xs (o + 1))]) (st := [.int w_]) (hM_) mo_M_over mi_M_over ml_L_94 rfl (by decide) rfl rfl rfl (Nat.le_of_ble_eq_true rfl) de_L_law_839 (fun v_ M_ hK_ hl_ hv_ => ?_)
  obtain ⟨rfl, nr2_, h2_, g2_, rr2_, rfl, hA2_⟩ := hK_
  change ab_G _ _ _ _ _ _ _ [(3, .int (nI o)), (2, .ref 30), (1, .ref 0), (0, .float 0)] [.int w_, .int w_] (ab_S nr2_ h2_ g2_ rr2_) _
  refine ab_icmp_eq (tgt := 1519) de_L_law_842 rfl (fun c_842_1 => ?_) (fun c_842_1 => ?_)
  · exact kk nr2_ h2_ g2_ rr2_ hA2_
  · exact absurd rfl c_842_1
set_option maxHeartbeats 1000000 in
set_option maxRecDepth 10000 in
theorem lc_play (l : Launch) {n : Nat} {xs : Nat → Int32} (hn : n ≤ 3072) {o : Nat} (ho : o + 6 ≤ n) (nr : Nat) (h : Nat → Nat → Int32) (g : Nat → Nat → Int64) (rr : Nat → Option Nat) (hA : jA nr h g rr) {kc ks : Nat} {K : Option Value → ab_Me → Prop} (kk : ∀ nr h g rr, jA nr h g rr → ab_G l (some (n, xs)) am_L 21 kc ks 1519 [(3, .int (nI o)), (2, .ref 30), (1, .ref 0), (0, .float 0)] [] (ab_S nr h g rr) K) : ab_G l (some (n, xs)) am_L 21 kc ks 847 [(3, .int (nI o)), (2, .ref 30), (1, .ref 0), (0, .float 0)] [] (ab_S nr h g rr) K := by
  obtain ⟨σ, q_, h0_, hC_, hD_⟩ := hA
  refine ab_aload_n de_L_law_847 2 rfl ?_
  refine ab_fload_n de_L_law_848 3 rfl ?_
  refine ab_iload_n de_L_law_849 0 rfl ?_
  refine ab_iconst (v := 1) de_L_law_850 rfl ?_
  refine ab_iadd de_L_law_851 ?_
  refine ab_top (v' := nI (o + 1)) (ab_add _ _) ?_
  refine ab_sld (v := xs (o + 1)) (ab_in (by omega) (by omega)) (congrArg xs (ab_tn (by omega))) de_L_law_852 ?_
  refine ab_fload_n de_L_law_853 3 rfl ?_
  refine ab_iload_n de_L_law_854 0 rfl ?_
  refine ab_iconst (v := 2) de_L_law_855 rfl ?_
  refine ab_iadd de_L_law_856 ?_
  refine ab_top (v' := nI (o + 2)) (ab_add _ _) ?_
  refine ab_sld (v := xs (o + 2)) (ab_in (by omega) (by omega)) (congrArg xs (ab_tn (by omega))) de_L_law_857 ?_
  refine ab_cV (as := [.int (xs (o + 1)), .int (xs (o + 2))]) (st := []) (js_play l h0_ hC_ hD_ (xs (o + 1)) (xs (o + 2))) mo_W_play mi_W_play ml_L_95 rfl (by decide) rfl rfl rfl (Nat.le_of_ble_eq_true rfl) de_L_law_858 (fun v_ M_ hK_ hl_ hv_ => ?_)
  obtain ⟨v1_, nr1_, h1_, g1_, rr1_, rfl, rfl, hM_⟩ := hK_
  obtain ⟨w_, hw_⟩ := (show ∃ x, some v1_ = some (.int x) from hv_)
  cases hw_
  change ab_G _ _ _ _ _ _ _ [(3, .int (nI o)), (2, .ref 30), (1, .ref 0), (0, .float 0)] [.int w_] (ab_S nr1_ h1_ g1_ rr1_) _
  refine ab_aload_n de_L_law_861 1 rfl ?_
  refine ab_fload_n de_L_law_862 3 rfl ?_
  refine ab_iload_n de_L_law_863 0 rfl ?_
  refine ab_iconst (v := 1) de_L_law_864 rfl ?_
  refine ab_iadd de_L_law_865 ?_
  refine ab_top (v' := nI (o + 1)) (ab_add _ _) ?_
  refine ab_sld (v := xs (o + 1)) (ab_in (by omega) (by omega)) (congrArg xs (ab_tn (by omega))) de_L_law_866 ?_
  refine ab_fload_n de_L_law_867 3 rfl ?_
  refine ab_iload_n de_L_law_868 0 rfl ?_
  refine ab_iconst (v := 2) de_L_law_869 rfl ?_
  refine ab_iadd de_L_law_870 ?_
  refine ab_top (v' := nI (o + 2)) (ab_add _ _) ?_
  refine ab_sld (v := xs (o + 2)) (ab_in (by omega) (by omega)) (congrArg xs (ab_tn (by omega))) de_L_law_871 ?_
  refine ab_cV (as := [.int (xs (o + 1)), .int (xs (o + 2))]) (st := [.int w_]) (hM_) mo_M_play mi_M_play ml_L_98 rfl (by decide) rfl rfl rfl (Nat.le_of_ble_eq_true rfl) de_L_law_872 (fun v_ M_ hK_ hl_ hv_ => ?_)
  obtain ⟨rfl, nr2_, h2_, g2_, rr2_, rfl, hA2_⟩ := hK_
  change ab_G _ _ _ _ _ _ _ [(3, .int (nI o)), (2, .ref 30), (1, .ref 0), (0, .float 0)] [.int w_, .int w_] (ab_S nr2_ h2_ g2_ rr2_) _
  refine ab_icmp_eq (tgt := 1519) de_L_law_875 rfl (fun c_875_1 => ?_) (fun c_875_1 => ?_)
  · exact kk nr2_ h2_ g2_ rr2_ hA2_
  · exact absurd rfl c_875_1
set_option maxHeartbeats 1000000 in
set_option maxRecDepth 10000 in
theorem lc_game (l : Launch) {n : Nat} {xs : Nat → Int32} (hn : n ≤ 3072) {o : Nat} (ho : o + 6 ≤ n) (nr : Nat) (h : Nat → Nat → Int32) (g : Nat → Nat → Int64) (rr : Nat → Option Nat) (hA : jA nr h g rr) {kc ks : Nat} {K : Option Value → ab_Me → Prop} (kk : ∀ nr h g rr, jA nr h g rr → ab_G l (some (n, xs)) am_L 21 kc ks 1519 [(3, .int (nI o)), (2, .ref 30), (1, .ref 0), (0, .float 0)] [] (ab_S nr h g rr) K) : ab_G l (some (n, xs)) am_L 21 kc ks 880 [(3, .int (nI o)), (2, .ref 30), (1, .ref 0), (0, .float 0)] [] (ab_S nr h g rr) K := by
  obtain ⟨σ, q_, h0_, hC_, hD_⟩ := hA
  refine ab_aload_n de_L_law_880 2 rfl ?_
  refine ab_fload_n de_L_law_881 3 rfl ?_
  refine ab_iload_n de_L_law_882 0 rfl ?_
  refine ab_iconst (v := 1) de_L_law_883 rfl ?_
  refine ab_iadd de_L_law_884 ?_
  refine ab_top (v' := nI (o + 1)) (ab_add _ _) ?_
  refine ab_sld (v := xs (o + 1)) (ab_in (by omega) (by omega)) (congrArg xs (ab_tn (by omega))) de_L_law_885 ?_
  refine ab_fload_n de_L_law_886 3 rfl ?_
  refine ab_iload_n de_L_law_887 0 rfl ?_
  refine ab_iconst (v := 2) de_L_law_888 rfl ?_
  refine ab_iadd de_L_law_889 ?_
  refine ab_top (v' := nI (o + 2)) (ab_add _ _) ?_
  refine ab_sld (v := xs (o + 2)) (ab_in (by omega) (by omega)) (congrArg xs (ab_tn (by omega))) de_L_law_890 ?_
  refine ab_fload_n de_L_law_891 3 rfl ?_
  refine ab_iload_n de_L_law_892 0 rfl ?_
  refine ab_iconst (v := 3) de_L_law_893 rfl ?_
  refine ab_iadd de_L_law_894 ?_
  refine ab_top (v' := nI (o + 3)) (ab_add _ _) ?_
  refine ab_sld (v := xs (o + 3)) (ab_in (by omega) (by omega)) (congrArg xs (ab_tn (by omega))) de_L_law_895 ?_
  refine ab_fload_n de_L_law_896 3 rfl ?_
  refine ab_iload_n de_L_law_897 0 rfl ?_
  refine ab_iconst (v := 4) de_L_law_898 rfl ?_
  refine ab_iadd de_L_law_899 ?_
  refine ab_top (v' := nI (o + 4)) (ab_add _ _) ?_
  refine ab_sld (v := xs (o + 4)) (ab_in (by omega) (by omega)) (congrArg xs (ab_tn (by omega))) de_L_law_900 ?_
  refine ab_cV (as := [.int (xs (o + 1)), .int (xs (o + 2)), .int (xs (o + 3)), .int (xs (o + 4))]) (st := []) (js_game l h0_ hC_ hD_ (xs (o + 1)) (xs (o + 2)) (xs (o + 3)) (xs (o + 4))) mo_W_game mi_W_game ml_L_99 rfl (by decide) rfl rfl rfl (Nat.le_of_ble_eq_true rfl) de_L_law_901 (fun v_ M_ hK_ hl_ hv_ => ?_)
  obtain ⟨v1_, nr1_, h1_, g1_, rr1_, rfl, rfl, hM_⟩ := hK_
  obtain ⟨w_, hw_⟩ := (show ∃ x, some v1_ = some (.int x) from hv_)
  cases hw_
  change ab_G _ _ _ _ _ _ _ [(3, .int (nI o)), (2, .ref 30), (1, .ref 0), (0, .float 0)] [.int w_] (ab_S nr1_ h1_ g1_ rr1_) _
  refine ab_aload_n de_L_law_904 1 rfl ?_
  refine ab_fload_n de_L_law_905 3 rfl ?_
  refine ab_iload_n de_L_law_906 0 rfl ?_
  refine ab_iconst (v := 1) de_L_law_907 rfl ?_
  refine ab_iadd de_L_law_908 ?_
  refine ab_top (v' := nI (o + 1)) (ab_add _ _) ?_
  refine ab_sld (v := xs (o + 1)) (ab_in (by omega) (by omega)) (congrArg xs (ab_tn (by omega))) de_L_law_909 ?_
  refine ab_fload_n de_L_law_910 3 rfl ?_
  refine ab_iload_n de_L_law_911 0 rfl ?_
  refine ab_iconst (v := 2) de_L_law_912 rfl ?_
  refine ab_iadd de_L_law_913 ?_
  refine ab_top (v' := nI (o + 2)) (ab_add _ _) ?_
  refine ab_sld (v := xs (o + 2)) (ab_in (by omega) (by omega)) (congrArg xs (ab_tn (by omega))) de_L_law_914 ?_
  refine ab_fload_n de_L_law_915 3 rfl ?_
  refine ab_iload_n de_L_law_916 0 rfl ?_
  refine ab_iconst (v := 3) de_L_law_917 rfl ?_
  refine ab_iadd de_L_law_918 ?_
  refine ab_top (v' := nI (o + 3)) (ab_add _ _) ?_
  refine ab_sld (v := xs (o + 3)) (ab_in (by omega) (by omega)) (congrArg xs (ab_tn (by omega))) de_L_law_919 ?_
  refine ab_fload_n de_L_law_920 3 rfl ?_
  refine ab_iload_n de_L_law_921 0 rfl ?_
  refine ab_iconst (v := 4) de_L_law_922 rfl ?_
  refine ab_iadd de_L_law_923 ?_
  refine ab_top (v' := nI (o + 4)) (ab_add _ _) ?_
  refine ab_sld (v := xs (o + 4)) (ab_in (by omega) (by omega)) (congrArg xs (ab_tn (by omega))) de_L_law_924 ?_
  refine ab_cV (as := [.int (xs (o + 1)), .int (xs (o + 2)), .int (xs (o + 3)), .int (xs (o + 4))]) (st := [.int w_]) (hM_) mo_M_game mi_M_game ml_L_103 rfl (by decide) rfl rfl rfl (Nat.le_of_ble_eq_true rfl) de_L_law_925 (fun v_ M_ hK_ hl_ hv_ => ?_)
  obtain ⟨rfl, nr2_, h2_, g2_, rr2_, rfl, hA2_⟩ := hK_
  change ab_G _ _ _ _ _ _ _ [(3, .int (nI o)), (2, .ref 30), (1, .ref 0), (0, .float 0)] [.int w_, .int w_] (ab_S nr2_ h2_ g2_ rr2_) _
  refine ab_icmp_eq (tgt := 1519) de_L_law_928 rfl (fun c_928_1 => ?_) (fun c_928_1 => ?_)
  · exact kk nr2_ h2_ g2_ rr2_ hA2_
  · exact absurd rfl c_928_1
set_option maxHeartbeats 1000000 in
set_option maxRecDepth 10000 in
theorem lc_gameOf (l : Launch) {n : Nat} {xs : Nat → Int32} (hn : n ≤ 3072) {o : Nat} (ho : o + 6 ≤ n) (nr : Nat) (h : Nat → Nat → Int32) (g : Nat → Nat → Int64) (rr : Nat → Option Nat) (hA : jA nr h g rr) {kc ks : Nat} {K : Option Value → ab_Me → Prop} (kk : ∀ nr h g rr, jA nr h g rr → ab_G l (some (n, xs)) am_L 21 kc ks 1519 [(3, .int (nI o)), (2, .ref 30), (1, .ref 0), (0, .float 0)] [] (ab_S nr h g rr) K) : ab_G l (some (n, xs)) am_L 21 kc ks 933 [(3, .int (nI o)), (2, .ref 30), (1, .ref 0), (0, .float 0)] [] (ab_S nr h g rr) K := by
  obtain ⟨σ, q_, h0_, hC_, hD_⟩ := hA
  refine ab_aload_n de_L_law_933 2 rfl ?_
  refine ab_fload_n de_L_law_934 3 rfl ?_
  refine ab_iload_n de_L_law_935 0 rfl ?_
  refine ab_iconst (v := 1) de_L_law_936 rfl ?_
  refine ab_iadd de_L_law_937 ?_
  refine ab_top (v' := nI (o + 1)) (ab_add _ _) ?_
  refine ab_sld (v := xs (o + 1)) (ab_in (by omega) (by omega)) (congrArg xs (ab_tn (by omega))) de_L_law_938 ?_
  refine ab_fload_n de_L_law_939 3 rfl ?_
  refine ab_iload_n de_L_law_940 0 rfl ?_
  refine ab_iconst (v := 2) de_L_law_941 rfl ?_
  refine ab_iadd de_L_law_942 ?_
  refine ab_top (v' := nI (o + 2)) (ab_add _ _) ?_
  refine ab_sld (v := xs (o + 2)) (ab_in (by omega) (by omega)) (congrArg xs (ab_tn (by omega))) de_L_law_943 ?_
  refine ab_cV (as := [.int (xs (o + 1)), .int (xs (o + 2))]) (st := []) (js_gameOf l h0_ hC_ hD_ (xs (o + 1)) (xs (o + 2))) mo_W_gameOf mi_W_gameOf ml_L_104 rfl (by decide) rfl rfl rfl (Nat.le_of_ble_eq_true rfl) de_L_law_944 (fun v_ M_ hK_ hl_ hv_ => ?_)
  obtain ⟨v1_, nr1_, h1_, g1_, rr1_, rfl, rfl, hM_⟩ := hK_
  obtain ⟨w_, hw_⟩ := (show ∃ x, some v1_ = some (.int x) from hv_)
  cases hw_
  change ab_G _ _ _ _ _ _ _ [(3, .int (nI o)), (2, .ref 30), (1, .ref 0), (0, .float 0)] [.int w_] (ab_S nr1_ h1_ g1_ rr1_) _
  refine ab_aload_n de_L_law_947 1 rfl ?_
  refine ab_fload_n de_L_law_948 3 rfl ?_
  refine ab_iload_n de_L_law_949 0 rfl ?_
  refine ab_iconst (v := 1) de_L_law_950 rfl ?_
  refine ab_iadd de_L_law_951 ?_
  refine ab_top (v' := nI (o + 1)) (ab_add _ _) ?_
  refine ab_sld (v := xs (o + 1)) (ab_in (by omega) (by omega)) (congrArg xs (ab_tn (by omega))) de_L_law_952 ?_
  refine ab_fload_n de_L_law_953 3 rfl ?_
  refine ab_iload_n de_L_law_954 0 rfl ?_
  refine ab_iconst (v := 2) de_L_law_955 rfl ?_
  refine ab_iadd de_L_law_956 ?_
  refine ab_top (v' := nI (o + 2)) (ab_add _ _) ?_
  refine ab_sld (v := xs (o + 2)) (ab_in (by omega) (by omega)) (congrArg xs (ab_tn (by omega))) de_L_law_957 ?_
  refine ab_cV (as := [.int (xs (o + 1)), .int (xs (o + 2))]) (st := [.int w_]) (hM_) mo_M_gameOf mi_M_gameOf ml_L_107 rfl (by decide) rfl rfl rfl (Nat.le_of_ble_eq_true rfl) de_L_law_958 (fun v_ M_ hK_ hl_ hv_ => ?_)
  obtain ⟨rfl, nr2_, h2_, g2_, rr2_, rfl, hA2_⟩ := hK_
  change ab_G _ _ _ _ _ _ _ [(3, .int (nI o)), (2, .ref 30), (1, .ref 0), (0, .float 0)] [.int w_, .int w_] (ab_S nr2_ h2_ g2_ rr2_) _
  refine ab_icmp_eq (tgt := 1519) de_L_law_961 rfl (fun c_961_1 => ?_) (fun c_961_1 => ?_)
  · exact kk nr2_ h2_ g2_ rr2_ hA2_
  · exact absurd rfl c_961_1
set_option maxHeartbeats 1000000 in
set_option maxRecDepth 10000 in
theorem lc_load (l : Launch) {n : Nat} {xs : Nat → Int32} (hn : n ≤ 3072) {o : Nat} (ho : o + 6 ≤ n) (nr : Nat) (h : Nat → Nat → Int32) (g : Nat → Nat → Int64) (rr : Nat → Option Nat) (hA : jA nr h g rr) {kc ks : Nat} {K : Option Value → ab_Me → Prop} (kk : ∀ nr h g rr, jA nr h g rr → ab_G l (some (n, xs)) am_L 21 kc ks 1519 [(3, .int (nI o)), (2, .ref 30), (1, .ref 0), (0, .float 0)] [] (ab_S nr h g rr) K) : ab_G l (some (n, xs)) am_L 21 kc ks 966 [(3, .int (nI o)), (2, .ref 30), (1, .ref 0), (0, .float 0)] [] (ab_S nr h g rr) K := by
  obtain ⟨σ, q_, h0_, hC_, hD_⟩ := hA
  refine ab_aload_n de_L_law_966 2 rfl ?_
  refine ab_fload_n de_L_law_967 3 rfl ?_
  refine ab_iload_n de_L_law_968 0 rfl ?_
  refine ab_iconst (v := 1) de_L_law_969 rfl ?_
  refine ab_iadd de_L_law_970 ?_
  refine ab_top (v' := nI (o + 1)) (ab_add _ _) ?_
  refine ab_sld (v := xs (o + 1)) (ab_in (by omega) (by omega)) (congrArg xs (ab_tn (by omega))) de_L_law_971 ?_
  refine ab_fload_n de_L_law_972 3 rfl ?_
  refine ab_iload_n de_L_law_973 0 rfl ?_
  refine ab_iconst (v := 2) de_L_law_974 rfl ?_
  refine ab_iadd de_L_law_975 ?_
  refine ab_top (v' := nI (o + 2)) (ab_add _ _) ?_
  refine ab_sld (v := xs (o + 2)) (ab_in (by omega) (by omega)) (congrArg xs (ab_tn (by omega))) de_L_law_976 ?_
  refine ab_fload_n de_L_law_977 3 rfl ?_
  refine ab_iload_n de_L_law_978 0 rfl ?_
  refine ab_iconst (v := 3) de_L_law_979 rfl ?_
  refine ab_iadd de_L_law_980 ?_
  refine ab_top (v' := nI (o + 3)) (ab_add _ _) ?_
  refine ab_sld (v := xs (o + 3)) (ab_in (by omega) (by omega)) (congrArg xs (ab_tn (by omega))) de_L_law_981 ?_
  refine ab_cV (as := [.int (xs (o + 1)), .int (xs (o + 2)), .int (xs (o + 3))]) (st := []) (js_load l h0_ hC_ hD_ (xs (o + 1)) (xs (o + 2)) (xs (o + 3))) mo_W_load mi_W_load ml_L_108 rfl (by decide) rfl rfl rfl (Nat.le_of_ble_eq_true rfl) de_L_law_982 (fun v_ M_ hK_ hl_ hv_ => ?_)
  obtain ⟨v1_, nr1_, h1_, g1_, rr1_, rfl, rfl, hM_⟩ := hK_
  obtain ⟨w_, hw_⟩ := (show ∃ x, some v1_ = some (.int x) from hv_)
  cases hw_
  change ab_G _ _ _ _ _ _ _ [(3, .int (nI o)), (2, .ref 30), (1, .ref 0), (0, .float 0)] [.int w_] (ab_S nr1_ h1_ g1_ rr1_) _
  refine ab_aload_n de_L_law_985 1 rfl ?_
  refine ab_fload_n de_L_law_986 3 rfl ?_
  refine ab_iload_n de_L_law_987 0 rfl ?_
  refine ab_iconst (v := 1) de_L_law_988 rfl ?_
  refine ab_iadd de_L_law_989 ?_
  refine ab_top (v' := nI (o + 1)) (ab_add _ _) ?_
  refine ab_sld (v := xs (o + 1)) (ab_in (by omega) (by omega)) (congrArg xs (ab_tn (by omega))) de_L_law_990 ?_
  refine ab_fload_n de_L_law_991 3 rfl ?_
  refine ab_iload_n de_L_law_992 0 rfl ?_
  refine ab_iconst (v := 2) de_L_law_993 rfl ?_
  refine ab_iadd de_L_law_994 ?_
  refine ab_top (v' := nI (o + 2)) (ab_add _ _) ?_
  refine ab_sld (v := xs (o + 2)) (ab_in (by omega) (by omega)) (congrArg xs (ab_tn (by omega))) de_L_law_995 ?_
  refine ab_fload_n de_L_law_996 3 rfl ?_
  refine ab_iload_n de_L_law_997 0 rfl ?_
  refine ab_iconst (v := 3) de_L_law_998 rfl ?_
  refine ab_iadd de_L_law_999 ?_
  refine ab_top (v' := nI (o + 3)) (ab_add _ _) ?_
  refine ab_sld (v := xs (o + 3)) (ab_in (by omega) (by omega)) (congrArg xs (ab_tn (by omega))) de_L_law_1000 ?_
  refine ab_cV (as := [.int (xs (o + 1)), .int (xs (o + 2)), .int (xs (o + 3))]) (st := [.int w_]) (hM_) mo_M_load mi_M_load ml_L_111 rfl (by decide) rfl rfl rfl (Nat.le_of_ble_eq_true rfl) de_L_law_1001 (fun v_ M_ hK_ hl_ hv_ => ?_)
  obtain ⟨rfl, nr2_, h2_, g2_, rr2_, rfl, hA2_⟩ := hK_
  change ab_G _ _ _ _ _ _ _ [(3, .int (nI o)), (2, .ref 30), (1, .ref 0), (0, .float 0)] [.int w_, .int w_] (ab_S nr2_ h2_ g2_ rr2_) _
  refine ab_icmp_eq (tgt := 1519) de_L_law_1004 rfl (fun c_1004_1 => ?_) (fun c_1004_1 => ?_)
  · exact kk nr2_ h2_ g2_ rr2_ hA2_
  · exact absurd rfl c_1004_1
set_option maxHeartbeats 1000000 in
set_option maxRecDepth 10000 in
theorem lc_judge (l : Launch) {n : Nat} {xs : Nat → Int32} (hn : n ≤ 3072) {o : Nat} (ho : o + 6 ≤ n) (nr : Nat) (h : Nat → Nat → Int32) (g : Nat → Nat → Int64) (rr : Nat → Option Nat) (hA : jA nr h g rr) {kc ks : Nat} {K : Option Value → ab_Me → Prop} (kk : ∀ nr h g rr, jA nr h g rr → ab_G l (some (n, xs)) am_L 21 kc ks 1519 [(3, .int (nI o)), (2, .ref 30), (1, .ref 0), (0, .float 0)] [] (ab_S nr h g rr) K) : ab_G l (some (n, xs)) am_L 21 kc ks 1009 [(3, .int (nI o)), (2, .ref 30), (1, .ref 0), (0, .float 0)] [] (ab_S nr h g rr) K := by
  obtain ⟨σ, q_, h0_, hC_, hD_⟩ := hA
  refine ab_aload_n de_L_law_1009 2 rfl ?_
  refine ab_fload_n de_L_law_1010 3 rfl ?_
  refine ab_iload_n de_L_law_1011 0 rfl ?_
  refine ab_iconst (v := 1) de_L_law_1012 rfl ?_
  refine ab_iadd de_L_law_1013 ?_
  refine ab_top (v' := nI (o + 1)) (ab_add _ _) ?_
  refine ab_sld (v := xs (o + 1)) (ab_in (by omega) (by omega)) (congrArg xs (ab_tn (by omega))) de_L_law_1014 ?_
  refine ab_fload_n de_L_law_1015 3 rfl ?_
  refine ab_iload_n de_L_law_1016 0 rfl ?_
  refine ab_iconst (v := 2) de_L_law_1017 rfl ?_
  refine ab_iadd de_L_law_1018 ?_
  refine ab_top (v' := nI (o + 2)) (ab_add _ _) ?_
  refine ab_sld (v := xs (o + 2)) (ab_in (by omega) (by omega)) (congrArg xs (ab_tn (by omega))) de_L_law_1019 ?_
  refine ab_cV (as := [.int (xs (o + 1)), .int (xs (o + 2))]) (st := []) (js_judge l h0_ hC_ hD_ (xs (o + 1)) (xs (o + 2))) mo_W_judge mi_W_judge ml_L_112 rfl (by decide) rfl rfl rfl (Nat.le_of_ble_eq_true rfl) de_L_law_1020 (fun v_ M_ hK_ hl_ hv_ => ?_)
  obtain ⟨v1_, nr1_, h1_, g1_, rr1_, rfl, rfl, hM_⟩ := hK_
  obtain ⟨w_, hw_⟩ := (show ∃ x, some v1_ = some (.int x) from hv_)
  cases hw_
  change ab_G _ _ _ _ _ _ _ [(3, .int (nI o)), (2, .ref 30), (1, .ref 0), (0, .float 0)] [.int w_] (ab_S nr1_ h1_ g1_ rr1_) _
  refine ab_aload_n de_L_law_1023 1 rfl ?_
  refine ab_fload_n de_L_law_1024 3 rfl ?_
  refine ab_iload_n de_L_law_1025 0 rfl ?_
  refine ab_iconst (v := 1) de_L_law_1026 rfl ?_
  refine ab_iadd de_L_law_1027 ?_
  refine ab_top (v' := nI (o + 1)) (ab_add _ _) ?_
  refine ab_sld (v := xs (o + 1)) (ab_in (by omega) (by omega)) (congrArg xs (ab_tn (by omega))) de_L_law_1028 ?_
  refine ab_fload_n de_L_law_1029 3 rfl ?_
  refine ab_iload_n de_L_law_1030 0 rfl ?_
  refine ab_iconst (v := 2) de_L_law_1031 rfl ?_
  refine ab_iadd de_L_law_1032 ?_
  refine ab_top (v' := nI (o + 2)) (ab_add _ _) ?_
  refine ab_sld (v := xs (o + 2)) (ab_in (by omega) (by omega)) (congrArg xs (ab_tn (by omega))) de_L_law_1033 ?_
  refine ab_cV (as := [.int (xs (o + 1)), .int (xs (o + 2))]) (st := [.int w_]) (hM_) mo_M_judge mi_M_judge ml_L_115 rfl (by decide) rfl rfl rfl (Nat.le_of_ble_eq_true rfl) de_L_law_1034 (fun v_ M_ hK_ hl_ hv_ => ?_)
  obtain ⟨rfl, nr2_, h2_, g2_, rr2_, rfl, hA2_⟩ := hK_
  change ab_G _ _ _ _ _ _ _ [(3, .int (nI o)), (2, .ref 30), (1, .ref 0), (0, .float 0)] [.int w_, .int w_] (ab_S nr2_ h2_ g2_ rr2_) _
  refine ab_icmp_eq (tgt := 1519) de_L_law_1037 rfl (fun c_1037_1 => ?_) (fun c_1037_1 => ?_)
  · exact kk nr2_ h2_ g2_ rr2_ hA2_
  · exact absurd rfl c_1037_1
set_option maxHeartbeats 1000000 in
set_option maxRecDepth 10000 in
theorem lc_find (l : Launch) {n : Nat} {xs : Nat → Int32} (hn : n ≤ 3072) {o : Nat} (ho : o + 6 ≤ n) (nr : Nat) (h : Nat → Nat → Int32) (g : Nat → Nat → Int64) (rr : Nat → Option Nat) (hA : jA nr h g rr) {kc ks : Nat} {K : Option Value → ab_Me → Prop} (kk : ∀ nr h g rr, jA nr h g rr → ab_G l (some (n, xs)) am_L 21 kc ks 1519 [(3, .int (nI o)), (2, .ref 30), (1, .ref 0), (0, .float 0)] [] (ab_S nr h g rr) K) : ab_G l (some (n, xs)) am_L 21 kc ks 1042 [(3, .int (nI o)), (2, .ref 30), (1, .ref 0), (0, .float 0)] [] (ab_S nr h g rr) K := by
  obtain ⟨σ, q_, h0_, hC_, hD_⟩ := hA
  refine ab_aload_n de_L_law_1042 2 rfl ?_
  refine ab_cV (as := []) (st := []) (js_find l h0_ hC_ hD_) mo_W_find mi_W_find ml_L_116 rfl (by decide) rfl rfl rfl (Nat.le_of_ble_eq_true rfl) de_L_law_1043 (fun v_ M_ hK_ hl_ hv_ => ?_)
  obtain ⟨v1_, nr1_, h1_, g1_, rr1_, rfl, rfl, hM_⟩ := hK_
  obtain ⟨w_, hw_⟩ := (show ∃ x, some v1_ = some (.int x) from hv_)
  cases hw_
  change ab_G _ _ _ _ _ _ _ [(3, .int (nI o)), (2, .ref 30), (1, .ref 0), (0, .float 0)] [.int w_] (ab_S nr1_ h1_ g1_ rr1_) _
  refine ab_aload_n de_L_law_1046 1 rfl ?_
  refine ab_cV (as := []) (st := [.int w_]) (hM_) mo_M_find mi_M_find ml_L_119 rfl (by decide) rfl rfl rfl (Nat.le_of_ble_eq_true rfl) de_L_law_1047 (fun v_ M_ hK_ hl_ hv_ => ?_)
  obtain ⟨rfl, nr2_, h2_, g2_, rr2_, rfl, hA2_⟩ := hK_
  change ab_G _ _ _ _ _ _ _ [(3, .int (nI o)), (2, .ref 30), (1, .ref 0), (0, .float 0)] [.int w_, .int w_] (ab_S nr2_ h2_ g2_ rr2_) _
  refine ab_icmp_eq (tgt := 1519) de_L_law_1050 rfl (fun c_1050_1 => ?_) (fun c_1050_1 => ?_)
  · exact kk nr2_ h2_ g2_ rr2_ hA2_
  · exact absurd rfl c_1050_1
set_option maxHeartbeats 1000000 in
set_option maxRecDepth 10000 in
theorem lc_fits (l : Launch) {n : Nat} {xs : Nat → Int32} (hn : n ≤ 3072) {o : Nat} (ho : o + 6 ≤ n) (nr : Nat) (h : Nat → Nat → Int32) (g : Nat → Nat → Int64) (rr : Nat → Option Nat) (hA : jA nr h g rr) {kc ks : Nat} {K : Option Value → ab_Me → Prop} (kk : ∀ nr h g rr, jA nr h g rr → ab_G l (some (n, xs)) am_L 21 kc ks 1519 [(3, .int (nI o)), (2, .ref 30), (1, .ref 0), (0, .float 0)] [] (ab_S nr h g rr) K) : ab_G l (some (n, xs)) am_L 21 kc ks 1055 [(3, .int (nI o)), (2, .ref 30), (1, .ref 0), (0, .float 0)] [] (ab_S nr h g rr) K := by
  obtain ⟨σ, q_, h0_, hC_, hD_⟩ := hA
  refine ab_aload_n de_L_law_1055 2 rfl ?_
  refine ab_cV (as := []) (st := []) (js_fits l h0_ hC_ hD_) mo_W_fits mi_W_fits ml_L_120 rfl (by decide) rfl rfl rfl (Nat.le_of_ble_eq_true rfl) de_L_law_1056 (fun v_ M_ hK_ hl_ hv_ => ?_)
  obtain ⟨v1_, nr1_, h1_, g1_, rr1_, rfl, rfl, hM_⟩ := hK_
  obtain ⟨w_, hw_⟩ := (show ∃ x, some v1_ = some (.int x) from hv_)
  cases hw_
  change ab_G _ _ _ _ _ _ _ [(3, .int (nI o)), (2, .ref 30), (1, .ref 0), (0, .float 0)] [.int w_] (ab_S nr1_ h1_ g1_ rr1_) _
  refine ab_aload_n de_L_law_1059 1 rfl ?_
  refine ab_cV (as := []) (st := [.int w_]) (hM_) mo_M_fits mi_M_fits ml_L_123 rfl (by decide) rfl rfl rfl (Nat.le_of_ble_eq_true rfl) de_L_law_1060 (fun v_ M_ hK_ hl_ hv_ => ?_)
  obtain ⟨rfl, nr2_, h2_, g2_, rr2_, rfl, hA2_⟩ := hK_
  change ab_G _ _ _ _ _ _ _ [(3, .int (nI o)), (2, .ref 30), (1, .ref 0), (0, .float 0)] [.int w_, .int w_] (ab_S nr2_ h2_ g2_ rr2_) _
  refine ab_icmp_eq (tgt := 1519) de_L_law_1063 rfl (fun c_1063_1 => ?_) (fun c_1063_1 => ?_)
  · exact kk nr2_ h2_ g2_ rr2_ hA2_
  · exact absurd rfl c_1063_1
set_option maxHeartbeats 1000000 in
set_option maxRecDepth 10000 in
theorem lc_rivals (l : Launch) {n : Nat} {xs : Nat → Int32} (hn : n ≤ 3072) {o : Nat} (ho : o + 6 ≤ n) (nr : Nat) (h : Nat → Nat → Int32) (g : Nat → Nat → Int64) (rr : Nat → Option Nat) (hA : jA nr h g rr) {kc ks : Nat} {K : Option Value → ab_Me → Prop} (kk : ∀ nr h g rr, jA nr h g rr → ab_G l (some (n, xs)) am_L 21 kc ks 1519 [(3, .int (nI o)), (2, .ref 30), (1, .ref 0), (0, .float 0)] [] (ab_S nr h g rr) K) : ab_G l (some (n, xs)) am_L 21 kc ks 1068 [(3, .int (nI o)), (2, .ref 30), (1, .ref 0), (0, .float 0)] [] (ab_S nr h g rr) K := by
  obtain ⟨σ, q_, h0_, hC_, hD_⟩ := hA
  refine ab_aload_n de_L_law_1068 2 rfl ?_
  refine ab_fload_n de_L_law_1069 3 rfl ?_
  refine ab_iload_n de_L_law_1070 0 rfl ?_
  refine ab_iconst (v := 1) de_L_law_1071 rfl ?_
  refine ab_iadd de_L_law_1072 ?_
  refine ab_top (v' := nI (o + 1)) (ab_add _ _) ?_
  refine ab_sld (v := xs (o + 1)) (ab_in (by omega) (by omega)) (congrArg xs (ab_tn (by omega))) de_L_law_1073 ?_
  refine ab_cV (as := [.int (xs (o + 1))]) (st := []) (js_rivals l h0_ hC_ hD_ (xs (o + 1))) mo_W_rivals mi_W_rivals ml_L_124 rfl (by decide) rfl rfl rfl (Nat.le_of_ble_eq_true rfl) de_L_law_1074 (fun v_ M_ hK_ hl_ hv_ => ?_)
  obtain ⟨v1_, nr1_, h1_, g1_, rr1_, rfl, rfl, hM_⟩ := hK_
  obtain ⟨w_, hw_⟩ := (show ∃ x, some v1_ = some (.int x) from hv_)
  cases hw_
  change ab_G _ _ _ _ _ _ _ [(3, .int (nI o)), (2, .ref 30), (1, .ref 0), (0, .float 0)] [.int w_] (ab_S nr1_ h1_ g1_ rr1_) _
  refine ab_aload_n de_L_law_1077 1 rfl ?_
  refine ab_fload_n de_L_law_1078 3 rfl ?_
  refine ab_iload_n de_L_law_1079 0 rfl ?_
  refine ab_iconst (v := 1) de_L_law_1080 rfl ?_
  refine ab_iadd de_L_law_1081 ?_
  refine ab_top (v' := nI (o + 1)) (ab_add _ _) ?_
  refine ab_sld (v := xs (o + 1)) (ab_in (by omega) (by omega)) (congrArg xs (ab_tn (by omega))) de_L_law_1082 ?_
  refine ab_cV (as := [.int (xs (o + 1))]) (st := [.int w_]) (hM_) mo_M_rivals mi_M_rivals ml_L_127 rfl (by decide) rfl rfl rfl (Nat.le_of_ble_eq_true rfl) de_L_law_1083 (fun v_ M_ hK_ hl_ hv_ => ?_)
  obtain ⟨rfl, nr2_, h2_, g2_, rr2_, rfl, hA2_⟩ := hK_
  change ab_G _ _ _ _ _ _ _ [(3, .int (nI o)), (2, .ref 30), (1, .ref 0), (0, .float 0)] [.int w_, .int w_] (ab_S nr2_ h2_ g2_ rr2_) _
  refine ab_icmp_eq (tgt := 1519) de_L_law_1086 rfl (fun c_1086_1 => ?_) (fun c_1086_1 => ?_)
  · exact kk nr2_ h2_ g2_ rr2_ hA2_
  · exact absurd rfl c_1086_1
set_option maxHeartbeats 1000000 in
set_option maxRecDepth 10000 in
theorem lc_rival (l : Launch) {n : Nat} {xs : Nat → Int32} (hn : n ≤ 3072) {o : Nat} (ho : o + 6 ≤ n) (nr : Nat) (h : Nat → Nat → Int32) (g : Nat → Nat → Int64) (rr : Nat → Option Nat) (hA : jA nr h g rr) {kc ks : Nat} {K : Option Value → ab_Me → Prop} (kk : ∀ nr h g rr, jA nr h g rr → ab_G l (some (n, xs)) am_L 21 kc ks 1519 [(3, .int (nI o)), (2, .ref 30), (1, .ref 0), (0, .float 0)] [] (ab_S nr h g rr) K) : ab_G l (some (n, xs)) am_L 21 kc ks 1091 [(3, .int (nI o)), (2, .ref 30), (1, .ref 0), (0, .float 0)] [] (ab_S nr h g rr) K := by
  obtain ⟨σ, q_, h0_, hC_, hD_⟩ := hA
  refine ab_aload_n de_L_law_1091 2 rfl ?_
  refine ab_fload_n de_L_law_1092 3 rfl ?_
  refine ab_iload_n de_L_law_1093 0 rfl ?_
  refine ab_iconst (v := 1) de_L_law_1094 rfl ?_
  refine ab_iadd de_L_law_1095 ?_
  refine ab_top (v' := nI (o + 1)) (ab_add _ _) ?_
  refine ab_sld (v := xs (o + 1)) (ab_in (by omega) (by omega)) (congrArg xs (ab_tn (by omega))) de_L_law_1096 ?_
  refine ab_fload_n de_L_law_1097 3 rfl ?_
  refine ab_iload_n de_L_law_1098 0 rfl ?_
  refine ab_iconst (v := 2) de_L_law_1099 rfl ?_
  refine ab_iadd de_L_law_1100 ?_
  refine ab_top (v' := nI (o + 2)) (ab_add _ _) ?_
  refine ab_sld (v := xs (o + 2)) (ab_in (by omega) (by omega)) (congrArg xs (ab_tn (by omega))) de_L_law_1101 ?_
  refine ab_cV (as := [.int (xs (o + 1)), .int (xs (o + 2))]) (st := []) (js_rival l h0_ hC_ hD_ (xs (o + 1)) (xs (o + 2))) mo_W_rival mi_W_rival ml_L_128 rfl (by decide) rfl rfl rfl (Nat.le_of_ble_eq_true rfl) de_L_law_1102 (fun v_ M_ hK_ hl_ hv_ => ?_)
  obtain ⟨v1_, nr1_, h1_, g1_, rr1_, rfl, rfl, hM_⟩ := hK_
  obtain ⟨w_, hw_⟩ := (show ∃ x, some v1_ = some (.int x) from hv_)
  cases hw_
  change ab_G _ _ _ _ _ _ _ [(3, .int (nI o)), (2, .ref 30), (1, .ref 0), (0, .float 0)] [.int w_] (ab_S nr1_ h1_ g1_ rr1_) _
  refine ab_aload_n de_L_law_1105 1 rfl ?_
  refine ab_fload_n de_L_law_1106 3 rfl ?_
  refine ab_iload_n de_L_law_1107 0 rfl ?_
  refine ab_iconst (v := 1) de_L_law_1108 rfl ?_
  refine ab_iadd de_L_law_1109 ?_
  refine ab_top (v' := nI (o + 1)) (ab_add _ _) ?_
  refine ab_sld (v := xs (o + 1)) (ab_in (by omega) (by omega)) (congrArg xs (ab_tn (by omega))) de_L_law_1110 ?_
  refine ab_fload_n de_L_law_1111 3 rfl ?_
  refine ab_iload_n de_L_law_1112 0 rfl ?_
  refine ab_iconst (v := 2) de_L_law_1113 rfl ?_
  refine ab_iadd de_L_law_1114 ?_
  refine ab_top (v' := nI (o + 2)) (ab_add _ _) ?_
  refine ab_sld (v := xs (o + 2)) (ab_in (by omega) (by omega)) (congrArg xs (ab_tn (by omega))) de_L_law_1115 ?_
  refine ab_cV (as := [.int (xs (o + 1)), .int (xs (o + 2))]) (st := [.int w_]) (hM_) mo_M_rival mi_M_rival ml_L_131 rfl (by decide) rfl rfl rfl (Nat.le_of_ble_eq_true rfl) de_L_law_1116 (fun v_ M_ hK_ hl_ hv_ => ?_)
  obtain ⟨rfl, nr2_, h2_, g2_, rr2_, rfl, hA2_⟩ := hK_
  change ab_G _ _ _ _ _ _ _ [(3, .int (nI o)), (2, .ref 30), (1, .ref 0), (0, .float 0)] [.int w_, .int w_] (ab_S nr2_ h2_ g2_ rr2_) _
  refine ab_icmp_eq (tgt := 1519) de_L_law_1119 rfl (fun c_1119_1 => ?_) (fun c_1119_1 => ?_)
  · exact kk nr2_ h2_ g2_ rr2_ hA2_
  · exact absurd rfl c_1119_1
set_option maxHeartbeats 1000000 in
set_option maxRecDepth 10000 in
theorem lc_wide (l : Launch) {n : Nat} {xs : Nat → Int32} (hn : n ≤ 3072) {o : Nat} (ho : o + 6 ≤ n) (nr : Nat) (h : Nat → Nat → Int32) (g : Nat → Nat → Int64) (rr : Nat → Option Nat) (hA : jA nr h g rr) {kc ks : Nat} {K : Option Value → ab_Me → Prop} (kk : ∀ nr h g rr, jA nr h g rr → ab_G l (some (n, xs)) am_L 21 kc ks 1519 [(3, .int (nI o)), (2, .ref 30), (1, .ref 0), (0, .float 0)] [] (ab_S nr h g rr) K) : ab_G l (some (n, xs)) am_L 21 kc ks 1124 [(3, .int (nI o)), (2, .ref 30), (1, .ref 0), (0, .float 0)] [] (ab_S nr h g rr) K := by
  obtain ⟨σ, q_, h0_, hC_, hD_⟩ := hA
  refine ab_aload_n de_L_law_1124 2 rfl ?_
  refine ab_fload_n de_L_law_1125 3 rfl ?_
  refine ab_iload_n de_L_law_1126 0 rfl ?_
  refine ab_iconst (v := 1) de_L_law_1127 rfl ?_
  refine ab_iadd de_L_law_1128 ?_
  refine ab_top (v' := nI (o + 1)) (ab_add _ _) ?_
  refine ab_sld (v := xs (o + 1)) (ab_in (by omega) (by omega)) (congrArg xs (ab_tn (by omega))) de_L_law_1129 ?_
  refine ab_cV (as := [.int (xs (o + 1))]) (st := []) (js_wide l h0_ hC_ hD_ (xs (o + 1))) mo_W_wide mi_W_wide ml_L_132 rfl (by decide) rfl rfl rfl (Nat.le_of_ble_eq_true rfl) de_L_law_1130 (fun v_ M_ hK_ hl_ hv_ => ?_)
  obtain ⟨v1_, nr1_, h1_, g1_, rr1_, rfl, rfl, hM_⟩ := hK_
  obtain ⟨w_, hw_⟩ := (show ∃ x, some v1_ = some (.int x) from hv_)
  cases hw_
  change ab_G _ _ _ _ _ _ _ [(3, .int (nI o)), (2, .ref 30), (1, .ref 0), (0, .float 0)] [.int w_] (ab_S nr1_ h1_ g1_ rr1_) _
  refine ab_aload_n de_L_law_1133 1 rfl ?_
  refine ab_fload_n de_L_law_1134 3 rfl ?_
  refine ab_iload_n de_L_law_1135 0 rfl ?_
  refine ab_iconst (v := 1) de_L_law_1136 rfl ?_
  refine ab_iadd de_L_law_1137 ?_
  refine ab_top (v' := nI (o + 1)) (ab_add _ _) ?_
  refine ab_sld (v := xs (o + 1)) (ab_in (by omega) (by omega)) (congrArg xs (ab_tn (by omega))) de_L_law_1138 ?_
  refine ab_cV (as := [.int (xs (o + 1))]) (st := [.int w_]) (hM_) mo_M_wide mi_M_wide ml_L_135 rfl (by decide) rfl rfl rfl (Nat.le_of_ble_eq_true rfl) de_L_law_1139 (fun v_ M_ hK_ hl_ hv_ => ?_)
  obtain ⟨rfl, nr2_, h2_, g2_, rr2_, rfl, hA2_⟩ := hK_
  change ab_G _ _ _ _ _ _ _ [(3, .int (nI o)), (2, .ref 30), (1, .ref 0), (0, .float 0)] [.int w_, .int w_] (ab_S nr2_ h2_ g2_ rr2_) _
  refine ab_icmp_eq (tgt := 1519) de_L_law_1142 rfl (fun c_1142_1 => ?_) (fun c_1142_1 => ?_)
  · exact kk nr2_ h2_ g2_ rr2_ hA2_
  · exact absurd rfl c_1142_1
set_option maxHeartbeats 1000000 in
set_option maxRecDepth 10000 in
theorem lc_tight (l : Launch) {n : Nat} {xs : Nat → Int32} (hn : n ≤ 3072) {o : Nat} (ho : o + 6 ≤ n) (nr : Nat) (h : Nat → Nat → Int32) (g : Nat → Nat → Int64) (rr : Nat → Option Nat) (hA : jA nr h g rr) {kc ks : Nat} {K : Option Value → ab_Me → Prop} (kk : ∀ nr h g rr, jA nr h g rr → ab_G l (some (n, xs)) am_L 21 kc ks 1519 [(3, .int (nI o)), (2, .ref 30), (1, .ref 0), (0, .float 0)] [] (ab_S nr h g rr) K) : ab_G l (some (n, xs)) am_L 21 kc ks 1147 [(3, .int (nI o)), (2, .ref 30), (1, .ref 0), (0, .float 0)] [] (ab_S nr h g rr) K := by
  obtain ⟨σ, q_, h0_, hC_, hD_⟩ := hA
  refine ab_aload_n de_L_law_1147 2 rfl ?_
  refine ab_cV (as := []) (st := []) (js_tight l h0_ hC_ hD_) mo_W_tight mi_W_tight ml_L_136 rfl (by decide) rfl rfl rfl (Nat.le_of_ble_eq_true rfl) de_L_law_1148 (fun v_ M_ hK_ hl_ hv_ => ?_)
  obtain ⟨v1_, nr1_, h1_, g1_, rr1_, rfl, rfl, hM_⟩ := hK_
  obtain ⟨w_, hw_⟩ := (show ∃ x, some v1_ = some (.int x) from hv_)
  cases hw_
  change ab_G _ _ _ _ _ _ _ [(3, .int (nI o)), (2, .ref 30), (1, .ref 0), (0, .float 0)] [.int w_] (ab_S nr1_ h1_ g1_ rr1_) _
  refine ab_aload_n de_L_law_1151 1 rfl ?_
  refine ab_cV (as := []) (st := [.int w_]) (hM_) mo_M_tight mi_M_tight ml_L_139 rfl (by decide) rfl rfl rfl (Nat.le_of_ble_eq_true rfl) de_L_law_1152 (fun v_ M_ hK_ hl_ hv_ => ?_)
  obtain ⟨rfl, nr2_, h2_, g2_, rr2_, rfl, hA2_⟩ := hK_
  change ab_G _ _ _ _ _ _ _ [(3, .int (nI o)), (2, .ref 30), (1, .ref 0), (0, .float 0)] [.int w_, .int w_] (ab_S nr2_ h2_ g2_ rr2_) _
  refine ab_icmp_eq (tgt := 1519) de_L_law_1155 rfl (fun c_1155_1 => ?_) (fun c_1155_1 => ?_)
  · exact kk nr2_ h2_ g2_ rr2_ hA2_
  · exact absurd rfl c_1155_1
set_option maxHeartbeats 1000000 in
set_option maxRecDepth 10000 in
theorem lc_part (l : Launch) {n : Nat} {xs : Nat → Int32} (hn : n ≤ 3072) {o : Nat} (ho : o + 6 ≤ n) (nr : Nat) (h : Nat → Nat → Int32) (g : Nat → Nat → Int64) (rr : Nat → Option Nat) (hA : jA nr h g rr) {kc ks : Nat} {K : Option Value → ab_Me → Prop} (kk : ∀ nr h g rr, jA nr h g rr → ab_G l (some (n, xs)) am_L 21 kc ks 1519 [(3, .int (nI o)), (2, .ref 30), (1, .ref 0), (0, .float 0)] [] (ab_S nr h g rr) K) : ab_G l (some (n, xs)) am_L 21 kc ks 1160 [(3, .int (nI o)), (2, .ref 30), (1, .ref 0), (0, .float 0)] [] (ab_S nr h g rr) K := by
  obtain ⟨σ, q_, h0_, hC_, hD_⟩ := hA
  refine ab_aload_n de_L_law_1160 2 rfl ?_
  refine ab_fload_n de_L_law_1161 3 rfl ?_
  refine ab_iload_n de_L_law_1162 0 rfl ?_
  refine ab_iconst (v := 1) de_L_law_1163 rfl ?_
  refine ab_iadd de_L_law_1164 ?_
  refine ab_top (v' := nI (o + 1)) (ab_add _ _) ?_
  refine ab_sld (v := xs (o + 1)) (ab_in (by omega) (by omega)) (congrArg xs (ab_tn (by omega))) de_L_law_1165 ?_
  refine ab_fload_n de_L_law_1166 3 rfl ?_
  refine ab_iload_n de_L_law_1167 0 rfl ?_
  refine ab_iconst (v := 2) de_L_law_1168 rfl ?_
  refine ab_iadd de_L_law_1169 ?_
  refine ab_top (v' := nI (o + 2)) (ab_add _ _) ?_
  refine ab_sld (v := xs (o + 2)) (ab_in (by omega) (by omega)) (congrArg xs (ab_tn (by omega))) de_L_law_1170 ?_
  refine ab_cV (as := [.int (xs (o + 1)), .int (xs (o + 2))]) (st := []) (js_part l h0_ hC_ hD_ (xs (o + 1)) (xs (o + 2))) mo_W_part mi_W_part ml_L_140 rfl (by decide) rfl rfl rfl (Nat.le_of_ble_eq_true rfl) de_L_law_1171 (fun v_ M_ hK_ hl_ hv_ => ?_)
  obtain ⟨v1_, nr1_, h1_, g1_, rr1_, rfl, rfl, hM_⟩ := hK_
  obtain ⟨w_, hw_⟩ := (show ∃ x, some v1_ = some (.int x) from hv_)
  cases hw_
  change ab_G _ _ _ _ _ _ _ [(3, .int (nI o)), (2, .ref 30), (1, .ref 0), (0, .float 0)] [.int w_] (ab_S nr1_ h1_ g1_ rr1_) _
  refine ab_aload_n de_L_law_1174 1 rfl ?_
  refine ab_fload_n de_L_law_1175 3 rfl ?_
  refine ab_iload_n de_L_law_1176 0 rfl ?_
  refine ab_iconst (v := 1) de_L_law_1177 rfl ?_
  refine ab_iadd de_L_law_1178 ?_
  refine ab_top (v' := nI (o + 1)) (ab_add _ _) ?_
  refine ab_sld (v := xs (o + 1)) (ab_in (by omega) (by omega)) (congrArg xs (ab_tn (by omega))) de_L_law_1179 ?_
  refine ab_fload_n de_L_law_1180 3 rfl ?_
  refine ab_iload_n de_L_law_1181 0 rfl ?_
  refine ab_iconst (v := 2) de_L_law_1182 rfl ?_
  refine ab_iadd de_L_law_1183 ?_
  refine ab_top (v' := nI (o + 2)) (ab_add _ _) ?_
  refine ab_sld (v := xs (o + 2)) (ab_in (by omega) (by omega)) (congrArg xs (ab_tn (by omega))) de_L_law_1184 ?_
  refine ab_cV (as := [.int (xs (o + 1)), .int (xs (o + 2))]) (st := [.int w_]) (hM_) mo_M_part2 mi_M_part2 ml_L_143 rfl (by decide) rfl rfl rfl (Nat.le_of_ble_eq_true rfl) de_L_law_1185 (fun v_ M_ hK_ hl_ hv_ => ?_)
  obtain ⟨rfl, nr2_, h2_, g2_, rr2_, rfl, hA2_⟩ := hK_
  change ab_G _ _ _ _ _ _ _ [(3, .int (nI o)), (2, .ref 30), (1, .ref 0), (0, .float 0)] [.int w_, .int w_] (ab_S nr2_ h2_ g2_ rr2_) _
  refine ab_icmp_eq (tgt := 1519) de_L_law_1188 rfl (fun c_1188_1 => ?_) (fun c_1188_1 => ?_)
  · exact kk nr2_ h2_ g2_ rr2_ hA2_
  · exact absurd rfl c_1188_1
set_option maxHeartbeats 1000000 in
set_option maxRecDepth 10000 in
theorem lc_sure (l : Launch) {n : Nat} {xs : Nat → Int32} (hn : n ≤ 3072) {o : Nat} (ho : o + 6 ≤ n) (nr : Nat) (h : Nat → Nat → Int32) (g : Nat → Nat → Int64) (rr : Nat → Option Nat) (hA : jA nr h g rr) {kc ks : Nat} {K : Option Value → ab_Me → Prop} (kk : ∀ nr h g rr, jA nr h g rr → ab_G l (some (n, xs)) am_L 21 kc ks 1519 [(3, .int (nI o)), (2, .ref 30), (1, .ref 0), (0, .float 0)] [] (ab_S nr h g rr) K) : ab_G l (some (n, xs)) am_L 21 kc ks 1193 [(3, .int (nI o)), (2, .ref 30), (1, .ref 0), (0, .float 0)] [] (ab_S nr h g rr) K := by
  obtain ⟨σ, q_, h0_, hC_, hD_⟩ := hA
  refine ab_aload_n de_L_law_1193 2 rfl ?_
  refine ab_fload_n de_L_law_1194 3 rfl ?_
  refine ab_iload_n de_L_law_1195 0 rfl ?_
  refine ab_iconst (v := 1) de_L_law_1196 rfl ?_
  refine ab_iadd de_L_law_1197 ?_
  refine ab_top (v' := nI (o + 1)) (ab_add _ _) ?_
  refine ab_sld (v := xs (o + 1)) (ab_in (by omega) (by omega)) (congrArg xs (ab_tn (by omega))) de_L_law_1198 ?_
  refine ab_fload_n de_L_law_1199 3 rfl ?_
  refine ab_iload_n de_L_law_1200 0 rfl ?_
  refine ab_iconst (v := 2) de_L_law_1201 rfl ?_
  refine ab_iadd de_L_law_1202 ?_
  refine ab_top (v' := nI (o + 2)) (ab_add _ _) ?_
  refine ab_sld (v := xs (o + 2)) (ab_in (by omega) (by omega)) (congrArg xs (ab_tn (by omega))) de_L_law_1203 ?_
  refine ab_cV (as := [.int (xs (o + 1)), .int (xs (o + 2))]) (st := []) (js_sure l h0_ hC_ hD_ (xs (o + 1)) (xs (o + 2))) mo_W_sure mi_W_sure ml_L_144 rfl (by decide) rfl rfl rfl (Nat.le_of_ble_eq_true rfl) de_L_law_1204 (fun v_ M_ hK_ hl_ hv_ => ?_)
  obtain ⟨v1_, nr1_, h1_, g1_, rr1_, rfl, rfl, hM_⟩ := hK_
  obtain ⟨w_, hw_⟩ := (show ∃ x, some v1_ = some (.int x) from hv_)
  cases hw_
  change ab_G _ _ _ _ _ _ _ [(3, .int (nI o)), (2, .ref 30), (1, .ref 0), (0, .float 0)] [.int w_] (ab_S nr1_ h1_ g1_ rr1_) _
  refine ab_aload_n de_L_law_1207 1 rfl ?_
  refine ab_fload_n de_L_law_1208 3 rfl ?_
  refine ab_iload_n de_L_law_1209 0 rfl ?_
  refine ab_iconst (v := 1) de_L_law_1210 rfl ?_
  refine ab_iadd de_L_law_1211 ?_
  refine ab_top (v' := nI (o + 1)) (ab_add _ _) ?_
  refine ab_sld (v := xs (o + 1)) (ab_in (by omega) (by omega)) (congrArg xs (ab_tn (by omega))) de_L_law_1212 ?_
  refine ab_fload_n de_L_law_1213 3 rfl ?_
  refine ab_iload_n de_L_law_1214 0 rfl ?_
  refine ab_iconst (v := 2) de_L_law_1215 rfl ?_
  refine ab_iadd de_L_law_1216 ?_
  refine ab_top (v' := nI (o + 2)) (ab_add _ _) ?_
  refine ab_sld (v := xs (o + 2)) (ab_in (by omega) (by omega)) (congrArg xs (ab_tn (by omega))) de_L_law_1217 ?_
  refine ab_cV (as := [.int (xs (o + 1)), .int (xs (o + 2))]) (st := [.int w_]) (hM_) mo_M_sure mi_M_sure ml_L_147 rfl (by decide) rfl rfl rfl (Nat.le_of_ble_eq_true rfl) de_L_law_1218 (fun v_ M_ hK_ hl_ hv_ => ?_)
  obtain ⟨rfl, nr2_, h2_, g2_, rr2_, rfl, hA2_⟩ := hK_
  change ab_G _ _ _ _ _ _ _ [(3, .int (nI o)), (2, .ref 30), (1, .ref 0), (0, .float 0)] [.int w_, .int w_] (ab_S nr2_ h2_ g2_ rr2_) _
  refine ab_icmp_eq (tgt := 1519) de_L_law_1221 rfl (fun c_1221_1 => ?_) (fun c_1221_1 => ?_)
  · exact kk nr2_ h2_ g2_ rr2_ hA2_
  · exact absurd rfl c_1221_1
set_option maxHeartbeats 1000000 in
set_option maxRecDepth 10000 in
theorem lc_ask (l : Launch) {n : Nat} {xs : Nat → Int32} (hn : n ≤ 3072) {o : Nat} (ho : o + 6 ≤ n) (nr : Nat) (h : Nat → Nat → Int32) (g : Nat → Nat → Int64) (rr : Nat → Option Nat) (hA : jA nr h g rr) {kc ks : Nat} {K : Option Value → ab_Me → Prop} (kk : ∀ nr h g rr, jA nr h g rr → ab_G l (some (n, xs)) am_L 21 kc ks 1519 [(3, .int (nI o)), (2, .ref 30), (1, .ref 0), (0, .float 0)] [] (ab_S nr h g rr) K) : ab_G l (some (n, xs)) am_L 21 kc ks 1226 [(3, .int (nI o)), (2, .ref 30), (1, .ref 0), (0, .float 0)] [] (ab_S nr h g rr) K := by
  obtain ⟨σ, q_, h0_, hC_, hD_⟩ := hA
  refine ab_aload_n de_L_law_1226 2 rfl ?_
  refine ab_fload_n de_L_law_1227 3 rfl ?_
  refine ab_iload_n de_L_law_1228 0 rfl ?_
  refine ab_iconst (v := 1) de_L_law_1229 rfl ?_
  refine ab_iadd de_L_law_1230 ?_
  refine ab_top (v' := nI (o + 1)) (ab_add _ _) ?_
  refine ab_sld (v := xs (o + 1)) (ab_in (by omega) (by omega)) (congrArg xs (ab_tn (by omega))) de_L_law_1231 ?_
  refine ab_cV (as := [.int (xs (o + 1))]) (st := []) (js_ask l h0_ hC_ hD_ (xs (o + 1))) mo_W_ask mi_W_ask ml_L_148 rfl (by decide) rfl rfl rfl (Nat.le_of_ble_eq_true rfl) de_L_law_1232 (fun v_ M_ hK_ hl_ hv_ => ?_)
  obtain ⟨v1_, nr1_, h1_, g1_, rr1_, rfl, rfl, hM_⟩ := hK_
  obtain ⟨w_, hw_⟩ := (show ∃ x, some v1_ = some (.int x) from hv_)
  cases hw_
  change ab_G _ _ _ _ _ _ _ [(3, .int (nI o)), (2, .ref 30), (1, .ref 0), (0, .float 0)] [.int w_] (ab_S nr1_ h1_ g1_ rr1_) _
  refine ab_aload_n de_L_law_1235 1 rfl ?_
  refine ab_fload_n de_L_law_1236 3 rfl ?_
  refine ab_iload_n de_L_law_1237 0 rfl ?_
  refine ab_iconst (v := 1) de_L_law_1238 rfl ?_
  refine ab_iadd de_L_law_1239 ?_
  refine ab_top (v' := nI (o + 1)) (ab_add _ _) ?_
  refine ab_sld (v := xs (o + 1)) (ab_in (by omega) (by omega)) (congrArg xs (ab_tn (by omega))) de_L_law_1240 ?_
  refine ab_cV (as := [.int (xs (o + 1))]) (st := [.int w_]) (hM_) mo_M_ask mi_M_ask ml_L_151 rfl (by decide) rfl rfl rfl (Nat.le_of_ble_eq_true rfl) de_L_law_1241 (fun v_ M_ hK_ hl_ hv_ => ?_)
  obtain ⟨rfl, nr2_, h2_, g2_, rr2_, rfl, hA2_⟩ := hK_
  change ab_G _ _ _ _ _ _ _ [(3, .int (nI o)), (2, .ref 30), (1, .ref 0), (0, .float 0)] [.int w_, .int w_] (ab_S nr2_ h2_ g2_ rr2_) _
  refine ab_icmp_eq (tgt := 1519) de_L_law_1244 rfl (fun c_1244_1 => ?_) (fun c_1244_1 => ?_)
  · exact kk nr2_ h2_ g2_ rr2_ hA2_
  · exact absurd rfl c_1244_1
set_option maxHeartbeats 1000000 in
set_option maxRecDepth 10000 in
theorem lc_left (l : Launch) {n : Nat} {xs : Nat → Int32} (hn : n ≤ 3072) {o : Nat} (ho : o + 6 ≤ n) (nr : Nat) (h : Nat → Nat → Int32) (g : Nat → Nat → Int64) (rr : Nat → Option Nat) (hA : jA nr h g rr) {kc ks : Nat} {K : Option Value → ab_Me → Prop} (kk : ∀ nr h g rr, jA nr h g rr → ab_G l (some (n, xs)) am_L 21 kc ks 1519 [(3, .int (nI o)), (2, .ref 30), (1, .ref 0), (0, .float 0)] [] (ab_S nr h g rr) K) : ab_G l (some (n, xs)) am_L 21 kc ks 1249 [(3, .int (nI o)), (2, .ref 30), (1, .ref 0), (0, .float 0)] [] (ab_S nr h g rr) K := by
  obtain ⟨σ, q_, h0_, hC_, hD_⟩ := hA
  refine ab_aload_n de_L_law_1249 2 rfl ?_
  refine ab_fload_n de_L_law_1250 3 rfl ?_
  refine ab_iload_n de_L_law_1251 0 rfl ?_
  refine ab_iconst (v := 1) de_L_law_1252 rfl ?_
  refine ab_iadd de_L_law_1253 ?_
  refine ab_top (v' := nI (o + 1)) (ab_add _ _) ?_
  refine ab_sld (v := xs (o + 1)) (ab_in (by omega) (by omega)) (congrArg xs (ab_tn (by omega))) de_L_law_1254 ?_
  refine ab_cV (as := [.int (xs (o + 1))]) (st := []) (js_left l h0_ hC_ hD_ (xs (o + 1))) mo_W_left mi_W_left ml_L_152 rfl (by decide) rfl rfl rfl (Nat.le_of_ble_eq_true rfl) de_L_law_1255 (fun v_ M_ hK_ hl_ hv_ => ?_)
  obtain ⟨v1_, nr1_, h1_, g1_, rr1_, rfl, rfl, hM_⟩ := hK_
  obtain ⟨w_, hw_⟩ := (show ∃ x, some v1_ = some (.int x) from hv_)
  cases hw_
  change ab_G _ _ _ _ _ _ _ [(3, .int (nI o)), (2, .ref 30), (1, .ref 0), (0, .float 0)] [.int w_] (ab_S nr1_ h1_ g1_ rr1_) _
  refine ab_aload_n de_L_law_1258 1 rfl ?_
  refine ab_fload_n de_L_law_1259 3 rfl ?_
  refine ab_iload_n de_L_law_1260 0 rfl ?_
  refine ab_iconst (v := 1) de_L_law_1261 rfl ?_
  refine ab_iadd de_L_law_1262 ?_
  refine ab_top (v' := nI (o + 1)) (ab_add _ _) ?_
  refine ab_sld (v := xs (o + 1)) (ab_in (by omega) (by omega)) (congrArg xs (ab_tn (by omega))) de_L_law_1263 ?_
  refine ab_cV (as := [.int (xs (o + 1))]) (st := [.int w_]) (hM_) mo_M_left mi_M_left ml_L_155 rfl (by decide) rfl rfl rfl (Nat.le_of_ble_eq_true rfl) de_L_law_1264 (fun v_ M_ hK_ hl_ hv_ => ?_)
  obtain ⟨rfl, nr2_, h2_, g2_, rr2_, rfl, hA2_⟩ := hK_
  change ab_G _ _ _ _ _ _ _ [(3, .int (nI o)), (2, .ref 30), (1, .ref 0), (0, .float 0)] [.int w_, .int w_] (ab_S nr2_ h2_ g2_ rr2_) _
  refine ab_icmp_eq (tgt := 1519) de_L_law_1267 rfl (fun c_1267_1 => ?_) (fun c_1267_1 => ?_)
  · exact kk nr2_ h2_ g2_ rr2_ hA2_
  · exact absurd rfl c_1267_1
set_option maxHeartbeats 1000000 in
set_option maxRecDepth 10000 in
theorem lc_cheat (l : Launch) {n : Nat} {xs : Nat → Int32} (hn : n ≤ 3072) {o : Nat} (ho : o + 6 ≤ n) (nr : Nat) (h : Nat → Nat → Int32) (g : Nat → Nat → Int64) (rr : Nat → Option Nat) (hA : jA nr h g rr) {kc ks : Nat} {K : Option Value → ab_Me → Prop} (kk : ∀ nr h g rr, jA nr h g rr → ab_G l (some (n, xs)) am_L 21 kc ks 1519 [(3, .int (nI o)), (2, .ref 30), (1, .ref 0), (0, .float 0)] [] (ab_S nr h g rr) K) : ab_G l (some (n, xs)) am_L 21 kc ks 1272 [(3, .int (nI o)), (2, .ref 30), (1, .ref 0), (0, .float 0)] [] (ab_S nr h g rr) K := by
  obtain ⟨σ, q_, h0_, hC_, hD_⟩ := hA
  refine ab_aload_n de_L_law_1272 2 rfl ?_
  refine ab_fload_n de_L_law_1273 3 rfl ?_
  refine ab_iload_n de_L_law_1274 0 rfl ?_
  refine ab_iconst (v := 1) de_L_law_1275 rfl ?_
  refine ab_iadd de_L_law_1276 ?_
  refine ab_top (v' := nI (o + 1)) (ab_add _ _) ?_
  refine ab_sld (v := xs (o + 1)) (ab_in (by omega) (by omega)) (congrArg xs (ab_tn (by omega))) de_L_law_1277 ?_
  refine ab_fload_n de_L_law_1278 3 rfl ?_
  refine ab_iload_n de_L_law_1279 0 rfl ?_
  refine ab_iconst (v := 2) de_L_law_1280 rfl ?_
  refine ab_iadd de_L_law_1281 ?_
  refine ab_top (v' := nI (o + 2)) (ab_add _ _) ?_
  refine ab_sld (v := xs (o + 2)) (ab_in (by omega) (by omega)) (congrArg xs (ab_tn (by omega))) de_L_law_1282 ?_
  refine ab_cV (as := [.int (xs (o + 1)), .int (xs (o + 2))]) (st := []) (js_cheat l h0_ hC_ hD_ (xs (o + 1)) (xs (o + 2))) mo_W_cheat mi_W_cheat ml_L_156 rfl (by decide) rfl rfl rfl (Nat.le_of_ble_eq_true rfl) de_L_law_1283 (fun v_ M_ hK_ hl_ hv_ => ?_)
  obtain ⟨v1_, nr1_, h1_, g1_, rr1_, rfl, rfl, hM_⟩ := hK_
  obtain ⟨w_, hw_⟩ := (show ∃ x, some v1_ = some (.int x) from hv_)
  cases hw_
  change ab_G _ _ _ _ _ _ _ [(3, .int (nI o)), (2, .ref 30), (1, .ref 0), (0, .float 0)] [.int w_] (ab_S nr1_ h1_ g1_ rr1_) _
  refine ab_aload_n de_L_law_1286 1 rfl ?_
  refine ab_fload_n de_L_law_1287 3 rfl ?_
  refine ab_iload_n de_L_law_1288 0 rfl ?_
  refine ab_iconst (v := 1) de_L_law_1289 rfl ?_
  refine ab_iadd de_L_law_1290 ?_
  refine ab_top (v' := nI (o + 1)) (ab_add _ _) ?_
  refine ab_sld (v := xs (o + 1)) (ab_in (by omega) (by omega)) (congrArg xs (ab_tn (by omega))) de_L_law_1291 ?_
  refine ab_fload_n de_L_law_1292 3 rfl ?_
  refine ab_iload_n de_L_law_1293 0 rfl ?_
  refine ab_iconst (v := 2) de_L_law_1294 rfl ?_
  refine ab_iadd de_L_law_1295 ?_
  refine ab_top (v' := nI (o + 2)) (ab_add _ _) ?_
  refine ab_sld (v := xs (o + 2)) (ab_in (by omega) (by omega)) (congrArg xs (ab_tn (by omega))) de_L_law_1296 ?_
  refine ab_cV (as := [.int (xs (o + 1)), .int (xs (o + 2))]) (st := [.int w_]) (hM_) mo_M_cheat mi_M_cheat ml_L_159 rfl (by decide) rfl rfl rfl (Nat.le_of_ble_eq_true rfl) de_L_law_1297 (fun v_ M_ hK_ hl_ hv_ => ?_)
  obtain ⟨rfl, nr2_, h2_, g2_, rr2_, rfl, hA2_⟩ := hK_
  change ab_G _ _ _ _ _ _ _ [(3, .int (nI o)), (2, .ref 30), (1, .ref 0), (0, .float 0)] [.int w_, .int w_] (ab_S nr2_ h2_ g2_ rr2_) _
  refine ab_icmp_eq (tgt := 1519) de_L_law_1300 rfl (fun c_1300_1 => ?_) (fun c_1300_1 => ?_)
  · exact kk nr2_ h2_ g2_ rr2_ hA2_
  · exact absurd rfl c_1300_1
set_option maxHeartbeats 1000000 in
set_option maxRecDepth 10000 in
theorem lc_same (l : Launch) {n : Nat} {xs : Nat → Int32} (hn : n ≤ 3072) {o : Nat} (ho : o + 6 ≤ n) (nr : Nat) (h : Nat → Nat → Int32) (g : Nat → Nat → Int64) (rr : Nat → Option Nat) (hA : jA nr h g rr) {kc ks : Nat} {K : Option Value → ab_Me → Prop} (kk : ∀ nr h g rr, jA nr h g rr → ab_G l (some (n, xs)) am_L 21 kc ks 1519 [(3, .int (nI o)), (2, .ref 30), (1, .ref 0), (0, .float 0)] [] (ab_S nr h g rr) K) : ab_G l (some (n, xs)) am_L 21 kc ks 1305 [(3, .int (nI o)), (2, .ref 30), (1, .ref 0), (0, .float 0)] [] (ab_S nr h g rr) K := by
  obtain ⟨σ, q_, h0_, hC_, hD_⟩ := hA
  refine ab_aload_n de_L_law_1305 2 rfl ?_
  refine ab_fload_n de_L_law_1306 3 rfl ?_
  refine ab_iload_n de_L_law_1307 0 rfl ?_
  refine ab_iconst (v := 1) de_L_law_1308 rfl ?_
  refine ab_iadd de_L_law_1309 ?_
  refine ab_top (v' := nI (o + 1)) (ab_add _ _) ?_
  refine ab_sld (v := xs (o + 1)) (ab_in (by omega) (by omega)) (congrArg xs (ab_tn (by omega))) de_L_law_1310 ?_
  refine ab_fload_n de_L_law_1311 3 rfl ?_
  refine ab_iload_n de_L_law_1312 0 rfl ?_
  refine ab_iconst (v := 2) de_L_law_1313 rfl ?_
  refine ab_iadd de_L_law_1314 ?_
  refine ab_top (v' := nI (o + 2)) (ab_add _ _) ?_
  refine ab_sld (v := xs (o + 2)) (ab_in (by omega) (by omega)) (congrArg xs (ab_tn (by omega))) de_L_law_1315 ?_
  refine ab_cVX (as := [.int (xs (o + 1)), .int (xs (o + 2))]) (st := []) (js_same l h0_ hC_ hD_ (xs (o + 1)) (xs (o + 2))) mo_W_same mi_W_same ml_L_160 rfl (by decide) rfl rfl rfl (Nat.le_of_ble_eq_true rfl) de_L_law_1316 (fun v_ M_ hK_ hl_ hv_ => ?_)
  obtain ⟨v1_, nr1_, h1_, g1_, rr1_, rfl, rfl, hM_⟩ := hK_
  obtain ⟨w_, hw_⟩ := (show ∃ x, some v1_ = some (.int x) from hv_)
  cases hw_
  change ab_G _ _ _ _ _ _ _ [(3, .int (nI o)), (2, .ref 30), (1, .ref 0), (0, .float 0)] [.int w_] (ab_S nr1_ h1_ g1_ rr1_) _
  refine ab_aload_n de_L_law_1319 1 rfl ?_
  refine ab_fload_n de_L_law_1320 3 rfl ?_
  refine ab_iload_n de_L_law_1321 0 rfl ?_
  refine ab_iconst (v := 1) de_L_law_1322 rfl ?_
  refine ab_iadd de_L_law_1323 ?_
  refine ab_top (v' := nI (o + 1)) (ab_add _ _) ?_
  refine ab_sld (v := xs (o + 1)) (ab_in (by omega) (by omega)) (congrArg xs (ab_tn (by omega))) de_L_law_1324 ?_
  refine ab_fload_n de_L_law_1325 3 rfl ?_
  refine ab_iload_n de_L_law_1326 0 rfl ?_
  refine ab_iconst (v := 2) de_L_law_1327 rfl ?_
  refine ab_iadd de_L_law_1328 ?_
  refine ab_top (v' := nI (o + 2)) (ab_add _ _) ?_
  refine ab_sld (v := xs (o + 2)) (ab_in (by omega) (by omega)) (congrArg xs (ab_tn (by omega))) de_L_law_1329 ?_
  refine ab_cV (as := [.int (xs (o + 1)), .int (xs (o + 2))]) (st := [.int w_]) (hM_) mo_M_same mi_M_same ml_L_163 rfl (by decide) rfl rfl rfl (Nat.le_of_ble_eq_true rfl) de_L_law_1330 (fun v_ M_ hK_ hl_ hv_ => ?_)
  obtain ⟨rfl, nr2_, h2_, g2_, rr2_, rfl, hA2_⟩ := hK_
  change ab_G _ _ _ _ _ _ _ [(3, .int (nI o)), (2, .ref 30), (1, .ref 0), (0, .float 0)] [.int w_, .int w_] (ab_S nr2_ h2_ g2_ rr2_) _
  refine ab_icmp_eq (tgt := 1519) de_L_law_1333 rfl (fun c_1333_1 => ?_) (fun c_1333_1 => ?_)
  · exact kk nr2_ h2_ g2_ rr2_ hA2_
  · exact absurd rfl c_1333_1
set_option maxHeartbeats 1000000 in
set_option maxRecDepth 10000 in
theorem lc_value (l : Launch) {n : Nat} {xs : Nat → Int32} (hn : n ≤ 3072) {o : Nat} (ho : o + 6 ≤ n) (nr : Nat) (h : Nat → Nat → Int32) (g : Nat → Nat → Int64) (rr : Nat → Option Nat) (hA : jA nr h g rr) {kc ks : Nat} {K : Option Value → ab_Me → Prop} (kk : ∀ nr h g rr, jA nr h g rr → ab_G l (some (n, xs)) am_L 21 kc ks 1519 [(3, .int (nI o)), (2, .ref 30), (1, .ref 0), (0, .float 0)] [] (ab_S nr h g rr) K) : ab_G l (some (n, xs)) am_L 21 kc ks 1338 [(3, .int (nI o)), (2, .ref 30), (1, .ref 0), (0, .float 0)] [] (ab_S nr h g rr) K := by
  obtain ⟨σ, q_, h0_, hC_, hD_⟩ := hA
  refine ab_aload_n de_L_law_1338 2 rfl ?_
  refine ab_fload_n de_L_law_1339 3 rfl ?_
  refine ab_iload_n de_L_law_1340 0 rfl ?_
  refine ab_iconst (v := 1) de_L_law_1341 rfl ?_
  refine ab_iadd de_L_law_1342 ?_
  refine ab_top (v' := nI (o + 1)) (ab_add _ _) ?_
  refine ab_sld (v := xs (o + 1)) (ab_in (by omega) (by omega)) (congrArg xs (ab_tn (by omega))) de_L_law_1343 ?_
  refine ab_fload_n de_L_law_1344 3 rfl ?_
  refine ab_iload_n de_L_law_1345 0 rfl ?_
  refine ab_iconst (v := 2) de_L_law_1346 rfl ?_
  refine ab_iadd de_L_law_1347 ?_
  refine ab_top (v' := nI (o + 2)) (ab_add _ _) ?_
  refine ab_sld (v := xs (o + 2)) (ab_in (by omega) (by omega)) (congrArg xs (ab_tn (by omega))) de_L_law_1348 ?_
  refine ab_cV (as := [.int (xs (o + 1)), .int (xs (o + 2))]) (st := []) (js_value l h0_ hC_ hD_ (xs (o + 1)) (xs (o + 2))) mo_W_value mi_W_value ml_L_164 rfl (by decide) rfl rfl rfl (Nat.le_of_ble_eq_true rfl) de_L_law_1349 (fun v_ M_ hK_ hl_ hv_ => ?_)
  obtain ⟨v1_, nr1_, h1_, g1_, rr1_, rfl, rfl, hM_⟩ := hK_
  obtain ⟨w_, hw_⟩ := (show ∃ x, some v1_ = some (.int x) from hv_)
  cases hw_
  change ab_G _ _ _ _ _ _ _ [(3, .int (nI o)), (2, .ref 30), (1, .ref 0), (0, .float 0)] [.int w_] (ab_S nr1_ h1_ g1_ rr1_) _
  refine ab_aload_n de_L_law_1352 1 rfl ?_
  refine ab_fload_n de_L_law_1353 3 rfl ?_
  refine ab_iload_n de_L_law_1354 0 rfl ?_
  refine ab_iconst (v := 1) de_L_law_1355 rfl ?_
  refine ab_iadd de_L_law_1356 ?_
  refine ab_top (v' := nI (o + 1)) (ab_add _ _) ?_
  refine ab_sld (v := xs (o + 1)) (ab_in (by omega) (by omega)) (congrArg xs (ab_tn (by omega))) de_L_law_1357 ?_
  refine ab_fload_n de_L_law_1358 3 rfl ?_
  refine ab_iload_n de_L_law_1359 0 rfl ?_
  refine ab_iconst (v := 2) de_L_law_1360 rfl ?_
  refine ab_iadd de_L_law_1361 ?_
  refine ab_top (v' := nI (o + 2)) (ab_add _ _) ?_
  refine ab_sld (v := xs (o + 2)) (ab_in (by omega) (by omega)) (congrArg xs (ab_tn (by omega))) de_L_law_1362 ?_
  refine ab_cV (as := [.int (xs (o + 1)), .int (xs (o + 2))]) (st := [.int w_]) (hM_) mo_M_value mi_M_value ml_L_167 rfl (by decide) rfl rfl rfl (Nat.le_of_ble_eq_true rfl) de_L_law_1363 (fun v_ M_ hK_ hl_ hv_ => ?_)
  obtain ⟨rfl, nr2_, h2_, g2_, rr2_, rfl, hA2_⟩ := hK_
  change ab_G _ _ _ _ _ _ _ [(3, .int (nI o)), (2, .ref 30), (1, .ref 0), (0, .float 0)] [.int w_, .int w_] (ab_S nr2_ h2_ g2_ rr2_) _
  refine ab_icmp_eq (tgt := 1519) de_L_law_1366 rfl (fun c_1366_1 => ?_) (fun c_1366_1 => ?_)
  · exact kk nr2_ h2_ g2_ rr2_ hA2_
  · exact absurd rfl c_1366_1
set_option maxHeartbeats 1000000 in
set_option maxRecDepth 10000 in
theorem lc_best (l : Launch) {n : Nat} {xs : Nat → Int32} (hn : n ≤ 3072) {o : Nat} (ho : o + 6 ≤ n) (nr : Nat) (h : Nat → Nat → Int32) (g : Nat → Nat → Int64) (rr : Nat → Option Nat) (hA : jA nr h g rr) {kc ks : Nat} {K : Option Value → ab_Me → Prop} (kk : ∀ nr h g rr, jA nr h g rr → ab_G l (some (n, xs)) am_L 21 kc ks 1519 [(3, .int (nI o)), (2, .ref 30), (1, .ref 0), (0, .float 0)] [] (ab_S nr h g rr) K) : ab_G l (some (n, xs)) am_L 21 kc ks 1371 [(3, .int (nI o)), (2, .ref 30), (1, .ref 0), (0, .float 0)] [] (ab_S nr h g rr) K := by
  obtain ⟨σ, q_, h0_, hC_, hD_⟩ := hA
  refine ab_aload_n de_L_law_1371 2 rfl ?_
  refine ab_fload_n de_L_law_1372 3 rfl ?_
  refine ab_iload_n de_L_law_1373 0 rfl ?_
  refine ab_iconst (v := 1) de_L_law_1374 rfl ?_
  refine ab_iadd de_L_law_1375 ?_
  refine ab_top (v' := nI (o + 1)) (ab_add _ _) ?_
  refine ab_sld (v := xs (o + 1)) (ab_in (by omega) (by omega)) (congrArg xs (ab_tn (by omega))) de_L_law_1376 ?_
  refine ab_fload_n de_L_law_1377 3 rfl ?_
  refine ab_iload_n de_L_law_1378 0 rfl ?_
  refine ab_iconst (v := 2) de_L_law_1379 rfl ?_
  refine ab_iadd de_L_law_1380 ?_
  refine ab_top (v' := nI (o + 2)) (ab_add _ _) ?_
  refine ab_sld (v := xs (o + 2)) (ab_in (by omega) (by omega)) (congrArg xs (ab_tn (by omega))) de_L_law_1381 ?_
  refine ab_cV (as := [.int (xs (o + 1)), .int (xs (o + 2))]) (st := []) (js_best l h0_ hC_ hD_ (xs (o + 1)) (xs (o + 2))) mo_W_best mi_W_best ml_L_168 rfl (by decide) rfl rfl rfl (Nat.le_of_ble_eq_true rfl) de_L_law_1382 (fun v_ M_ hK_ hl_ hv_ => ?_)
  obtain ⟨v1_, nr1_, h1_, g1_, rr1_, rfl, rfl, hM_⟩ := hK_
  obtain ⟨w_, hw_⟩ := (show ∃ x, some v1_ = some (.int x) from hv_)
  cases hw_
  change ab_G _ _ _ _ _ _ _ [(3, .int (nI o)), (2, .ref 30), (1, .ref 0), (0, .float 0)] [.int w_] (ab_S nr1_ h1_ g1_ rr1_) _
  refine ab_aload_n de_L_law_1385 1 rfl ?_
  refine ab_fload_n de_L_law_1386 3 rfl ?_
  refine ab_iload_n de_L_law_1387 0 rfl ?_
  refine ab_iconst (v := 1) de_L_law_1388 rfl ?_
  refine ab_iadd de_L_law_1389 ?_
  refine ab_top (v' := nI (o + 1)) (ab_add _ _) ?_
  refine ab_sld (v := xs (o + 1)) (ab_in (by omega) (by omega)) (congrArg xs (ab_tn (by omega))) de_L_law_1390 ?_
  refine ab_fload_n de_L_law_1391 3 rfl ?_
  refine ab_iload_n de_L_law_1392 0 rfl ?_
  refine ab_iconst (v := 2) de_L_law_1393 rfl ?_
  refine ab_iadd de_L_law_1394 ?_
  refine ab_top (v' := nI (o + 2)) (ab_add _ _) ?_
  refine ab_sld (v := xs (o + 2)) (ab_in (by omega) (by omega)) (congrArg xs (ab_tn (by omega))) de_L_law_1395 ?_
  refine ab_cV (as := [.int (xs (o + 1)), .int (xs (o + 2))]) (st := [.int w_]) (hM_) mo_M_best mi_M_best ml_L_171 rfl (by decide) rfl rfl rfl (Nat.le_of_ble_eq_true rfl) de_L_law_1396 (fun v_ M_ hK_ hl_ hv_ => ?_)
  obtain ⟨rfl, nr2_, h2_, g2_, rr2_, rfl, hA2_⟩ := hK_
  change ab_G _ _ _ _ _ _ _ [(3, .int (nI o)), (2, .ref 30), (1, .ref 0), (0, .float 0)] [.int w_, .int w_] (ab_S nr2_ h2_ g2_ rr2_) _
  refine ab_icmp_eq (tgt := 1519) de_L_law_1399 rfl (fun c_1399_1 => ?_) (fun c_1399_1 => ?_)
  · exact kk nr2_ h2_ g2_ rr2_ hA2_
  · exact absurd rfl c_1399_1
set_option maxHeartbeats 1000000 in
set_option maxRecDepth 10000 in
theorem lc_act (l : Launch) {n : Nat} {xs : Nat → Int32} (hn : n ≤ 3072) {o : Nat} (ho : o + 6 ≤ n) (nr : Nat) (h : Nat → Nat → Int32) (g : Nat → Nat → Int64) (rr : Nat → Option Nat) (hA : jA nr h g rr) {kc ks : Nat} {K : Option Value → ab_Me → Prop} (kk : ∀ nr h g rr, jA nr h g rr → ab_G l (some (n, xs)) am_L 21 kc ks 1519 [(3, .int (nI o)), (2, .ref 30), (1, .ref 0), (0, .float 0)] [] (ab_S nr h g rr) K) : ab_G l (some (n, xs)) am_L 21 kc ks 1404 [(3, .int (nI o)), (2, .ref 30), (1, .ref 0), (0, .float 0)] [] (ab_S nr h g rr) K := by
  obtain ⟨σ, q_, h0_, hC_, hD_⟩ := hA
  refine ab_aload_n de_L_law_1404 2 rfl ?_
  refine ab_fload_n de_L_law_1405 3 rfl ?_
  refine ab_iload_n de_L_law_1406 0 rfl ?_
  refine ab_iconst (v := 1) de_L_law_1407 rfl ?_
  refine ab_iadd de_L_law_1408 ?_
  refine ab_top (v' := nI (o + 1)) (ab_add _ _) ?_
  refine ab_sld (v := xs (o + 1)) (ab_in (by omega) (by omega)) (congrArg xs (ab_tn (by omega))) de_L_law_1409 ?_
  refine ab_fload_n de_L_law_1410 3 rfl ?_
  refine ab_iload_n de_L_law_1411 0 rfl ?_
  refine ab_iconst (v := 2) de_L_law_1412 rfl ?_
  refine ab_iadd de_L_law_1413 ?_
  refine ab_top (v' := nI (o + 2)) (ab_add _ _) ?_
  refine ab_sld (v := xs (o + 2)) (ab_in (by omega) (by omega)) (congrArg xs (ab_tn (by omega))) de_L_law_1414 ?_
  refine ab_fload_n de_L_law_1415 3 rfl ?_
  refine ab_iload_n de_L_law_1416 0 rfl ?_
  refine ab_iconst (v := 3) de_L_law_1417 rfl ?_
  refine ab_iadd de_L_law_1418 ?_
  refine ab_top (v' := nI (o + 3)) (ab_add _ _) ?_
  refine ab_sld (v := xs (o + 3)) (ab_in (by omega) (by omega)) (congrArg xs (ab_tn (by omega))) de_L_law_1419 ?_
  refine ab_cV (as := [.int (xs (o + 1)), .int (xs (o + 2)), .int (xs (o + 3))]) (st := []) (js_act l h0_ hC_ hD_ (xs (o + 1)) (xs (o + 2)) (xs (o + 3))) mo_W_act mi_W_act ml_L_172 rfl (by decide) rfl rfl rfl (Nat.le_of_ble_eq_true rfl) de_L_law_1420 (fun v_ M_ hK_ hl_ hv_ => ?_)
  obtain ⟨v1_, nr1_, h1_, g1_, rr1_, rfl, rfl, hM_⟩ := hK_
  obtain ⟨w_, hw_⟩ := (show ∃ x, some v1_ = some (.int x) from hv_)
  cases hw_
  change ab_G _ _ _ _ _ _ _ [(3, .int (nI o)), (2, .ref 30), (1, .ref 0), (0, .float 0)] [.int w_] (ab_S nr1_ h1_ g1_ rr1_) _
  refine ab_aload_n de_L_law_1423 1 rfl ?_
  refine ab_fload_n de_L_law_1424 3 rfl ?_
  refine ab_iload_n de_L_law_1425 0 rfl ?_
  refine ab_iconst (v := 1) de_L_law_1426 rfl ?_
  refine ab_iadd de_L_law_1427 ?_
  refine ab_top (v' := nI (o + 1)) (ab_add _ _) ?_
  refine ab_sld (v := xs (o + 1)) (ab_in (by omega) (by omega)) (congrArg xs (ab_tn (by omega))) de_L_law_1428 ?_
  refine ab_fload_n de_L_law_1429 3 rfl ?_
  refine ab_iload_n de_L_law_1430 0 rfl ?_
  refine ab_iconst (v := 2) de_L_law_1431 rfl ?_
  refine ab_iadd de_L_law_1432 ?_
  refine ab_top (v' := nI (o + 2)) (ab_add _ _) ?_
  refine ab_sld (v := xs (o + 2)) (ab_in (by omega) (by omega)) (congrArg xs (ab_tn (by omega))) de_L_law_1433 ?_
  refine ab_fload_n de_L_law_1434 3 rfl ?_
  refine ab_iload_n de_L_law_1435 0 rfl ?_
  refine ab_iconst (v := 3) de_L_law_1436 rfl ?_
  refine ab_iadd de_L_law_1437 ?_
  refine ab_top (v' := nI (o + 3)) (ab_add _ _) ?_
  refine ab_sld (v := xs (o + 3)) (ab_in (by omega) (by omega)) (congrArg xs (ab_tn (by omega))) de_L_law_1438 ?_
  refine ab_cV (as := [.int (xs (o + 1)), .int (xs (o + 2)), .int (xs (o + 3))]) (st := [.int w_]) (hM_) mo_M_act mi_M_act ml_L_175 rfl (by decide) rfl rfl rfl (Nat.le_of_ble_eq_true rfl) de_L_law_1439 (fun v_ M_ hK_ hl_ hv_ => ?_)
  obtain ⟨rfl, nr2_, h2_, g2_, rr2_, rfl, hA2_⟩ := hK_
  change ab_G _ _ _ _ _ _ _ [(3, .int (nI o)), (2, .ref 30), (1, .ref 0), (0, .float 0)] [.int w_, .int w_] (ab_S nr2_ h2_ g2_ rr2_) _
  refine ab_icmp_eq (tgt := 1519) de_L_law_1442 rfl (fun c_1442_1 => ?_) (fun c_1442_1 => ?_)
  · exact kk nr2_ h2_ g2_ rr2_ hA2_
  · exact absurd rfl c_1442_1
set_option maxHeartbeats 1000000 in
set_option maxRecDepth 10000 in
theorem lc_trace (l : Launch) {n : Nat} {xs : Nat → Int32} (hn : n ≤ 3072) {o : Nat} (ho : o + 6 ≤ n) (nr : Nat) (h : Nat → Nat → Int32) (g : Nat → Nat → Int64) (rr : Nat → Option Nat) (hA : jA nr h g rr) {kc ks : Nat} {K : Option Value → ab_Me → Prop} (kk : ∀ nr h g rr, jA nr h g rr → ab_G l (some (n, xs)) am_L 21 kc ks 1519 [(3, .int (nI o)), (2, .ref 30), (1, .ref 0), (0, .float 0)] [] (ab_S nr h g rr) K) : ab_G l (some (n, xs)) am_L 21 kc ks 1447 [(3, .int (nI o)), (2, .ref 30), (1, .ref 0), (0, .float 0)] [] (ab_S nr h g rr) K := by
  obtain ⟨σ, q_, h0_, hC_, hD_⟩ := hA
  refine ab_aload_n de_L_law_1447 2 rfl ?_
  refine ab_fload_n de_L_law_1448 3 rfl ?_
  refine ab_iload_n de_L_law_1449 0 rfl ?_
  refine ab_iconst (v := 1) de_L_law_1450 rfl ?_
  refine ab_iadd de_L_law_1451 ?_
  refine ab_top (v' := nI (o + 1)) (ab_add _ _) ?_
  refine ab_sld (v := xs (o + 1)) (ab_in (by omega) (by omega)) (congrArg xs (ab_tn (by omega))) de_L_law_1452 ?_
  refine ab_cV (as := [.int (xs (o + 1))]) (st := []) (js_trace l h0_ hC_ hD_ (xs (o + 1))) mo_W_trace mi_W_trace ml_L_176 rfl (by decide) rfl rfl rfl (Nat.le_of_ble_eq_true rfl) de_L_law_1453 (fun v_ M_ hK_ hl_ hv_ => ?_)
  obtain ⟨v1_, nr1_, h1_, g1_, rr1_, rfl, rfl, hM_⟩ := hK_
  obtain ⟨w_, hw_⟩ := (show ∃ x, some v1_ = some (.int x) from hv_)
  cases hw_
  change ab_G _ _ _ _ _ _ _ [(3, .int (nI o)), (2, .ref 30), (1, .ref 0), (0, .float 0)] [.int w_] (ab_S nr1_ h1_ g1_ rr1_) _
  refine ab_aload_n de_L_law_1456 1 rfl ?_
  refine ab_fload_n de_L_law_1457 3 rfl ?_
  refine ab_iload_n de_L_law_1458 0 rfl ?_
  refine ab_iconst (v := 1) de_L_law_1459 rfl ?_
  refine ab_iadd de_L_law_1460 ?_
  refine ab_top (v' := nI (o + 1)) (ab_add _ _) ?_
  refine ab_sld (v := xs (o + 1)) (ab_in (by omega) (by omega)) (congrArg xs (ab_tn (by omega))) de_L_law_1461 ?_
  refine ab_cV (as := [.int (xs (o + 1))]) (st := [.int w_]) (hM_) mo_M_trace mi_M_trace ml_L_179 rfl (by decide) rfl rfl rfl (Nat.le_of_ble_eq_true rfl) de_L_law_1462 (fun v_ M_ hK_ hl_ hv_ => ?_)
  obtain ⟨rfl, nr2_, h2_, g2_, rr2_, rfl, hA2_⟩ := hK_
  change ab_G _ _ _ _ _ _ _ [(3, .int (nI o)), (2, .ref 30), (1, .ref 0), (0, .float 0)] [.int w_, .int w_] (ab_S nr2_ h2_ g2_ rr2_) _
  refine ab_icmp_eq (tgt := 1519) de_L_law_1465 rfl (fun c_1465_1 => ?_) (fun c_1465_1 => ?_)
  · exact kk nr2_ h2_ g2_ rr2_ hA2_
  · exact absurd rfl c_1465_1
set_option maxHeartbeats 1000000 in
set_option maxRecDepth 10000 in
theorem lc_image (l : Launch) {n : Nat} {xs : Nat → Int32} (hn : n ≤ 3072) {o : Nat} (ho : o + 6 ≤ n) (nr : Nat) (h : Nat → Nat → Int32) (g : Nat → Nat → Int64) (rr : Nat → Option Nat) (hA : jA nr h g rr) {kc ks : Nat} {K : Option Value → ab_Me → Prop} (kk : ∀ nr h g rr, jA nr h g rr → ab_G l (some (n, xs)) am_L 21 kc ks 1519 [(3, .int (nI o)), (2, .ref 30), (1, .ref 0), (0, .float 0)] [] (ab_S nr h g rr) K) : ab_G l (some (n, xs)) am_L 21 kc ks 1470 [(3, .int (nI o)), (2, .ref 30), (1, .ref 0), (0, .float 0)] [] (ab_S nr h g rr) K := by
  obtain ⟨σ, q_, h0_, hC_, hD_⟩ := hA
  refine ab_aload_n de_L_law_1470 2 rfl ?_
  refine ab_cV (as := []) (st := []) (js_image l h0_ hC_ hD_) mo_W_image mi_W_image ml_L_180 rfl (by decide) rfl rfl rfl (Nat.le_of_ble_eq_true rfl) de_L_law_1471 (fun v_ M_ hK_ hl_ hv_ => ?_)
  obtain ⟨v1_, nr1_, h1_, g1_, rr1_, rfl, rfl, hM_⟩ := hK_
  obtain ⟨w_, hw_⟩ := (show ∃ x, some v1_ = some (.int x) from hv_)
  cases hw_
  change ab_G _ _ _ _ _ _ _ [(3, .int (nI o)), (2, .ref 30), (1, .ref 0), (0, .float 0)] [.int w_] (ab_S nr1_ h1_ g1_ rr1_) _
  refine ab_aload_n de_L_law_1474 1 rfl ?_
  refine ab_cV (as := []) (st := [.int w_]) (hM_) mo_M_image mi_M_image ml_L_183 rfl (by decide) rfl rfl rfl (Nat.le_of_ble_eq_true rfl) de_L_law_1475 (fun v_ M_ hK_ hl_ hv_ => ?_)
  obtain ⟨rfl, nr2_, h2_, g2_, rr2_, rfl, hA2_⟩ := hK_
  change ab_G _ _ _ _ _ _ _ [(3, .int (nI o)), (2, .ref 30), (1, .ref 0), (0, .float 0)] [.int w_, .int w_] (ab_S nr2_ h2_ g2_ rr2_) _
  refine ab_icmp_eq (tgt := 1519) de_L_law_1478 rfl (fun c_1478_1 => ?_) (fun c_1478_1 => ?_)
  · exact kk nr2_ h2_ g2_ rr2_ hA2_
  · exact absurd rfl c_1478_1
set_option maxHeartbeats 1000000 in
set_option maxRecDepth 10000 in
theorem lc_restore (l : Launch) {n : Nat} {xs : Nat → Int32} (hn : n ≤ 3072) {o : Nat} (ho : o + 6 ≤ n) (nr : Nat) (h : Nat → Nat → Int32) (g : Nat → Nat → Int64) (rr : Nat → Option Nat) (hA : jA nr h g rr) {kc ks : Nat} {K : Option Value → ab_Me → Prop} (kk : ∀ nr h g rr, jA nr h g rr → ab_G l (some (n, xs)) am_L 21 kc ks 1519 [(3, .int (nI o)), (2, .ref 30), (1, .ref 0), (0, .float 0)] [] (ab_S nr h g rr) K) : ab_G l (some (n, xs)) am_L 21 kc ks 1483 [(3, .int (nI o)), (2, .ref 30), (1, .ref 0), (0, .float 0)] [] (ab_S nr h g rr) K := by
  obtain ⟨σ, q_, h0_, hC_, hD_⟩ := hA
  refine ab_aload_n de_L_law_1483 2 rfl ?_
  refine ab_cV (as := []) (st := []) (js_restore l h0_ hC_ hD_) mo_W_restore mi_W_restore ml_L_184 rfl (by decide) rfl rfl rfl (Nat.le_of_ble_eq_true rfl) de_L_law_1484 (fun v_ M_ hK_ hl_ hv_ => ?_)
  obtain ⟨v1_, nr1_, h1_, g1_, rr1_, rfl, rfl, hM_⟩ := hK_
  obtain ⟨w_, hw_⟩ := (show ∃ x, some v1_ = some (.int x) from hv_)
  cases hw_
  change ab_G _ _ _ _ _ _ _ [(3, .int (nI o)), (2, .ref 30), (1, .ref 0), (0, .float 0)] [.int w_] (ab_S nr1_ h1_ g1_ rr1_) _
  refine ab_aload_n de_L_law_1487 1 rfl ?_
  refine ab_cV (as := []) (st := [.int w_]) (hM_) mo_M_restore mi_M_restore ml_L_187 rfl (by decide) rfl rfl rfl (Nat.le_of_ble_eq_true rfl) de_L_law_1488 (fun v_ M_ hK_ hl_ hv_ => ?_)
  obtain ⟨rfl, nr2_, h2_, g2_, rr2_, rfl, hA2_⟩ := hK_
  change ab_G _ _ _ _ _ _ _ [(3, .int (nI o)), (2, .ref 30), (1, .ref 0), (0, .float 0)] [.int w_, .int w_] (ab_S nr2_ h2_ g2_ rr2_) _
  refine ab_icmp_eq (tgt := 1519) de_L_law_1491 rfl (fun c_1491_1 => ?_) (fun c_1491_1 => ?_)
  · exact kk nr2_ h2_ g2_ rr2_ hA2_
  · exact absurd rfl c_1491_1
set_option maxHeartbeats 1000000 in
set_option maxRecDepth 10000 in
theorem lc_status (l : Launch) {n : Nat} {xs : Nat → Int32} (hn : n ≤ 3072) {o : Nat} (ho : o + 6 ≤ n) (nr : Nat) (h : Nat → Nat → Int32) (g : Nat → Nat → Int64) (rr : Nat → Option Nat) (hA : jA nr h g rr) {kc ks : Nat} {K : Option Value → ab_Me → Prop} (kk : ∀ nr h g rr, jA nr h g rr → ab_G l (some (n, xs)) am_L 21 kc ks 1519 [(3, .int (nI o)), (2, .ref 30), (1, .ref 0), (0, .float 0)] [] (ab_S nr h g rr) K) : ab_G l (some (n, xs)) am_L 21 kc ks 1496 [(3, .int (nI o)), (2, .ref 30), (1, .ref 0), (0, .float 0)] [] (ab_S nr h g rr) K := by
  obtain ⟨σ, q_, h0_, hC_, hD_⟩ := hA
  refine ab_aload_n de_L_law_1496 2 rfl ?_
  refine ab_fload_n de_L_law_1497 3 rfl ?_
  refine ab_iload_n de_L_law_1498 0 rfl ?_
  refine ab_iconst (v := 1) de_L_law_1499 rfl ?_
  refine ab_iadd de_L_law_1500 ?_
  refine ab_top (v' := nI (o + 1)) (ab_add _ _) ?_
  refine ab_sld (v := xs (o + 1)) (ab_in (by omega) (by omega)) (congrArg xs (ab_tn (by omega))) de_L_law_1501 ?_
  refine ab_cV (as := [.int (xs (o + 1))]) (st := []) (js_status l h0_ hC_ hD_ (xs (o + 1))) mo_W_status mi_W_status ml_L_188 rfl (by decide) rfl rfl rfl (Nat.le_of_ble_eq_true rfl) de_L_law_1502 (fun v_ M_ hK_ hl_ hv_ => ?_)
  obtain ⟨v1_, nr1_, h1_, g1_, rr1_, rfl, rfl, hM_⟩ := hK_
  obtain ⟨w_, hw_⟩ := (show ∃ x, some v1_ = some (.int x) from hv_)
  cases hw_
  change ab_G _ _ _ _ _ _ _ [(3, .int (nI o)), (2, .ref 30), (1, .ref 0), (0, .float 0)] [.int w_] (ab_S nr1_ h1_ g1_ rr1_) _
  refine ab_aload_n de_L_law_1505 1 rfl ?_
  refine ab_fload_n de_L_law_1506 3 rfl ?_
  refine ab_iload_n de_L_law_1507 0 rfl ?_
  refine ab_iconst (v := 1) de_L_law_1508 rfl ?_
  refine ab_iadd de_L_law_1509 ?_
  refine ab_top (v' := nI (o + 1)) (ab_add _ _) ?_
  refine ab_sld (v := xs (o + 1)) (ab_in (by omega) (by omega)) (congrArg xs (ab_tn (by omega))) de_L_law_1510 ?_
  refine ab_cV (as := [.int (xs (o + 1))]) (st := [.int w_]) (hM_) mo_M_status mi_M_status ml_L_191 rfl (by decide) rfl rfl rfl (Nat.le_of_ble_eq_true rfl) de_L_law_1511 (fun v_ M_ hK_ hl_ hv_ => ?_)
  obtain ⟨rfl, nr2_, h2_, g2_, rr2_, rfl, hA2_⟩ := hK_
  change ab_G _ _ _ _ _ _ _ [(3, .int (nI o)), (2, .ref 30), (1, .ref 0), (0, .float 0)] [.int w_, .int w_] (ab_S nr2_ h2_ g2_ rr2_) _
  refine ab_icmp_eq (tgt := 1519) de_L_law_1514 rfl (fun c_1514_1 => ?_) (fun c_1514_1 => ?_)
  · exact kk nr2_ h2_ g2_ rr2_ hA2_
  · exact absurd rfl c_1514_1
