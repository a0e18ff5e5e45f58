/-- case 0 -/
def lq_0 (M : tvM) (a1 a2 a3 : Int32) : Prop := (q_L_addHolder M a1) ∧ (q_X9_addHolder ((f_L_addHolder M a1).2) a1) ∧ ((f_X9_thrown ((f_X9_addHolder ((f_L_addHolder M a1).2) a1).2)) = (f_L_addHolder M a1).1) ∧ ((f_L_addHolder M a1).1 = 0 → (lg_cmp (tgl ((f_X9_addHolder ((f_L_addHolder M a1).2) a1).2) 257 0) (((f_X9_addHolder ((f_L_addHolder M a1).2) a1).1).toInt64)) = 0) ∧ True
def lm_0 (M : tvM) (a1 a2 a3 : Int32) : tvM := (f_X9_addHolder ((f_L_addHolder M a1).2) a1).2
theorem w_law_0 {E : tvE} {b Ln i k sl : Nat} {xs : Nat → Int32} (C : tvC E RL cL_law 9 (some .boolean) 1000 100000 1000000 []) (hN : tvNcE E.s) (hX : tvScr E b Ln xs) (hi : i + 4 ≤ Ln) (hk : k + 2 ≤ 100000) (hs : sl + 12 ≤ 1000000) (M : tvM) (hq : lq_0 M (xs (i + 1)) (xs (i + 2)) (xs (i + 3))) (kk : tv_W E tvP0 (k + 2) (sl + 12) (lm_0 M (xs (i + 1)) (xs (i + 2)) (xs (i + 3))) 2545 [some (.ref b), some (.ref (E.G.2.1 + 0)), some (.ref (E.G.2.1 + 249)), some (.ref (E.G.2.1 + 257)), some (.ref (E.G.2.1 + 258)), some (.int (nI i)), none, none, none] []) : tv_W E tvP0 k sl M 252 [some (.ref b), some (.ref (E.G.2.1 + 0)), some (.ref (E.G.2.1 + 249)), some (.ref (E.G.2.1 + 257)), some (.ref (E.G.2.1 + 258)), some (.int (nI i)), none, none, none] [] := by
  have hk0 : k ≤ 100000 := by omega
  have hs0 : sl ≤ 1000000 := by omega
  obtain ⟨q0, q1, q2, q3, -⟩ := hq
  refine tv_aload_n C dk_L_law_252 rfl ?_
  refine tv_aload_n C dk_L_law_253 rfl ?_
  refine tv_iload C dk_L_law_254 rfl ?_
  refine tv_iconst (v := 1) C dk_L_law_256 (by decide) ?_
  refine tv_iadd C dk_L_law_257 ?_
  refine tv_sld (j := i + 1) (tvl_1 hi hX.2.2.2) C hX dk_L_law_258 (tvli_1 hi hX.2.2.2) ?_
  refine tv_aload_n C dk_L_law_259 rfl ?_
  refine tv_callSW C hN dk_L_law_260 ml_RL_146 yw_L_addHolder yi_L_addHolder (m_L_addHolder _ M (xs (i + 1)) q0) rfl rfl (Nat.le_of_ble_eq_true rfl) (Nat.le_of_ble_eq_true rfl) (Nat.le_of_ble_eq_true rfl) (by omega) (by omega) rfl rfl rfl ?_
  refine tv_istore (L' := [_, _, _, _, _, _, _, _, _]) (hn := by decide) (hlt := (Nat.le_of_ble_eq_true rfl)) (hno := rfl) C dk_L_law_263 rfl ?_
  refine tv_aload_n C dk_L_law_265 rfl ?_
  refine tv_aload_n C dk_L_law_266 rfl ?_
  refine tv_iload C dk_L_law_267 rfl ?_
  refine tv_iconst (v := 1) C dk_L_law_269 (by decide) ?_
  refine tv_iadd C dk_L_law_270 ?_
  refine tv_sld (j := i + 1) (tvl_1 hi hX.2.2.2) C hX dk_L_law_271 (tvli_1 hi hX.2.2.2) ?_
  refine tv_cV1 C dk_L_law_272 ml_RL_151 yk_X9_addHolder yi_X9_addHolder (m_X9_addHolder _ ((f_L_addHolder M (xs (i + 1))).2) (xs (i + 1)) q1) (Nat.le_of_ble_eq_true rfl) rfl rfl rfl rfl (Nat.le_of_ble_eq_true rfl) (Nat.le_of_ble_eq_true rfl) (Nat.le_of_ble_eq_true rfl) (by omega) (by omega) ?_
  refine tv_istore (L' := [_, _, _, _, _, _, _, _, _]) (hn := by decide) (hlt := (Nat.le_of_ble_eq_true rfl)) (hno := rfl) C dk_L_law_275 rfl ?_
  refine tv_aload_n C dk_L_law_277 rfl ?_
  refine tv_cV1 C dk_L_law_278 ml_RL_152 yk_X9_thrown yi_X9_thrown (m_X9_thrown _ ((f_X9_addHolder ((f_L_addHolder M (xs (i + 1))).2) (xs (i + 1))).2)) (Nat.le_of_ble_eq_true rfl) rfl rfl rfl rfl (Nat.le_of_ble_eq_true rfl) (Nat.le_of_ble_eq_true rfl) (Nat.le_of_ble_eq_true rfl) (by omega) (by omega) ?_
  refine tv_iload C dk_L_law_281 rfl ?_
  refine tv_icmp_eq C dk_L_law_283 (fun _ => ?_) (fun h => tv_no (h q2))
  refine tv_iload C dk_L_law_288 rfl ?_
  refine tv_if_ne C dk_L_law_290 (fun _ => ?_) (fun h1 => ?_)
  · refine tv_goto C dk_L_law_305 ?_
    refine tv_widen (k' := k + 2) (sl' := sl + 12) (by omega) (by omega) ?_
    exact tv_drop (L2 := [some (.ref b), some (.ref (E.G.2.1 + 0)), some (.ref (E.G.2.1 + 249)), some (.ref (E.G.2.1 + 257)), some (.ref (E.G.2.1 + 258)), some (.int (nI i)), none, none, none]) (by simp [tvSubL]) kk
  refine tv_aload_n C dk_L_law_293 rfl ?_
  refine tv_iconst (v := 0) C dk_L_law_294 (by decide) ?_
  refine tv_lald (j := 0) rfl C dk_L_law_295 (Nat.le_of_ble_eq_true rfl) rfl (vp_in_nI (n := 0) (by decide) (by decide)) ?_
  refine tv_iload C dk_L_law_296 rfl ?_
  refine tv_i2l C dk_L_law_298 ?_
  refine tv_lcmp C dk_L_law_299 ?_
  refine tv_if_eq C dk_L_law_300 (fun _ => ?_) (fun h => tv_no (h (q3 h1)))
  refine tv_goto C dk_L_law_305 ?_
  refine tv_widen (k' := k + 2) (sl' := sl + 12) (by omega) (by omega) ?_
  exact tv_drop (L2 := [some (.ref b), some (.ref (E.G.2.1 + 0)), some (.ref (E.G.2.1 + 249)), some (.ref (E.G.2.1 + 257)), some (.ref (E.G.2.1 + 258)), some (.int (nI i)), none, none, none]) (by simp [tvSubL]) kk
/-- case 1 -/
def lq_1 (M : tvM) (a1 a2 a3 : Int32) : Prop := (q_L_addBox M a1 a2 a3) ∧ (q_X9_addBox ((f_L_addBox M a1 a2 a3).2) a1 a2 a3) ∧ ((f_X9_thrown ((f_X9_addBox ((f_L_addBox M a1 a2 a3).2) a1 a2 a3).2)) = (f_L_addBox M a1 a2 a3).1) ∧ ((f_L_addBox M a1 a2 a3).1 = 0 → (lg_cmp (tgl ((f_X9_addBox ((f_L_addBox M a1 a2 a3).2) a1 a2 a3).2) 257 0) (((f_X9_addBox ((f_L_addBox M a1 a2 a3).2) a1 a2 a3).1).toInt64)) = 0) ∧ True
def lm_1 (M : tvM) (a1 a2 a3 : Int32) : tvM := (f_X9_addBox ((f_L_addBox M a1 a2 a3).2) a1 a2 a3).2
theorem w_law_1 {E : tvE} {b Ln i k sl : Nat} {xs : Nat → Int32} (C : tvC E RL cL_law 9 (some .boolean) 1000 100000 1000000 []) (hN : tvNcE E.s) (hX : tvScr E b Ln xs) (hi : i + 4 ≤ Ln) (hk : k + 2 ≤ 100000) (hs : sl + 12 ≤ 1000000) (M : tvM) (hq : lq_1 M (xs (i + 1)) (xs (i + 2)) (xs (i + 3))) (kk : tv_W E tvP0 (k + 2) (sl + 12) (lm_1 M (xs (i + 1)) (xs (i + 2)) (xs (i + 3))) 2545 [some (.ref b), some (.ref (E.G.2.1 + 0)), some (.ref (E.G.2.1 + 249)), some (.ref (E.G.2.1 + 257)), some (.ref (E.G.2.1 + 258)), some (.int (nI i)), none, none, none] []) : tv_W E tvP0 k sl M 308 [some (.ref b), some (.ref (E.G.2.1 + 0)), some (.ref (E.G.2.1 + 249)), some (.ref (E.G.2.1 + 257)), some (.ref (E.G.2.1 + 258)), some (.int (nI i)), none, none, none] [] := by
  have hk0 : k ≤ 100000 := by omega
  have hs0 : sl ≤ 1000000 := by omega
  obtain ⟨q0, q1, q2, q3, -⟩ := hq
  refine tv_aload_n C dk_L_law_308 rfl ?_
  refine tv_aload_n C dk_L_law_309 rfl ?_
  refine tv_iload C dk_L_law_310 rfl ?_
  refine tv_iconst (v := 1) C dk_L_law_312 (by decide) ?_
  refine tv_iadd C dk_L_law_313 ?_
  refine tv_sld (j := i + 1) (tvl_1 hi hX.2.2.2) C hX dk_L_law_314 (tvli_1 hi hX.2.2.2) ?_
  refine tv_aload_n C dk_L_law_315 rfl ?_
  refine tv_iload C dk_L_law_316 rfl ?_
  refine tv_iconst (v := 2) C dk_L_law_318 (by decide) ?_
  refine tv_iadd C dk_L_law_319 ?_
  refine tv_sld (j := i + 2) (tvl_2 hi hX.2.2.2) C hX dk_L_law_320 (tvli_2 hi hX.2.2.2) ?_
  refine tv_aload_n C dk_L_law_321 rfl ?_
  refine tv_iload C dk_L_law_322 rfl ?_
  refine tv_iconst (v := 3) C dk_L_law_324 (by decide) ?_
  refine tv_iadd C dk_L_law_325 ?_
  refine tv_sld (j := i + 3) (tvl_3 hi hX.2.2.2) C hX dk_L_law_326 (tvli_3 hi hX.2.2.2) ?_
  refine tv_aload_n C dk_L_law_327 rfl ?_
  refine tv_callSW C hN dk_L_law_328 ml_RL_155 yw_L_addBox yi_L_addBox (m_L_addBox _ M (xs (i + 1)) (xs (i + 2)) (xs (i + 3)) q0) rfl rfl (Nat.le_of_ble_eq_true rfl) (Nat.le_of_ble_eq_true rfl) (Nat.le_of_ble_eq_true rfl) (by omega) (by omega) rfl rfl rfl ?_
  refine tv_istore (L' := [_, _, _, _, _, _, _, _, _]) (hn := by decide) (hlt := (Nat.le_of_ble_eq_true rfl)) (hno := rfl) C dk_L_law_331 rfl ?_
  refine tv_aload_n C dk_L_law_333 rfl ?_
  refine tv_aload_n C dk_L_law_334 rfl ?_
  refine tv_iload C dk_L_law_335 rfl ?_
  refine tv_iconst (v := 1) C dk_L_law_337 (by decide) ?_
  refine tv_iadd C dk_L_law_338 ?_
  refine tv_sld (j := i + 1) (tvl_1 hi hX.2.2.2) C hX dk_L_law_339 (tvli_1 hi hX.2.2.2) ?_
  refine tv_aload_n C dk_L_law_340 rfl ?_
  refine tv_iload C dk_L_law_341 rfl ?_
  refine tv_iconst (v := 2) C dk_L_law_343 (by decide) ?_
  refine tv_iadd C dk_L_law_344 ?_
  refine tv_sld (j := i + 2) (tvl_2 hi hX.2.2.2) C hX dk_L_law_345 (tvli_2 hi hX.2.2.2) ?_
  refine tv_aload_n C dk_L_law_346 rfl ?_
  refine tv_iload C dk_L_law_347 rfl ?_
  refine tv_iconst (v := 3) C dk_L_law_349 (by decide) ?_
  refine tv_iadd C dk_L_law_350 ?_
  refine tv_sld (j := i + 3) (tvl_3 hi hX.2.2.2) C hX dk_L_law_351 (tvli_3 hi hX.2.2.2) ?_
  refine tv_cV1 C dk_L_law_352 ml_RL_158 yk_X9_addBox yi_X9_addBox (m_X9_addBox _ ((f_L_addBox M (xs (i + 1)) (xs (i + 2)) (xs (i + 3))).2) (xs (i + 1)) (xs (i + 2)) (xs (i + 3)) q1) (Nat.le_of_ble_eq_true rfl) rfl rfl rfl rfl (Nat.le_of_ble_eq_true rfl) (Nat.le_of_ble_eq_true rfl) (Nat.le_of_ble_eq_true rfl) (by omega) (by omega) ?_
  refine tv_istore (L' := [_, _, _, _, _, _, _, _, _]) (hn := by decide) (hlt := (Nat.le_of_ble_eq_true rfl)) (hno := rfl) C dk_L_law_355 rfl ?_
  refine tv_aload_n C dk_L_law_357 rfl ?_
  refine tv_cV1 C dk_L_law_358 ml_RL_152 yk_X9_thrown yi_X9_thrown (m_X9_thrown _ ((f_X9_addBox ((f_L_addBox M (xs (i + 1)) (xs (i + 2)) (xs (i + 3))).2) (xs (i + 1)) (xs (i + 2)) (xs (i + 3))).2)) (Nat.le_of_ble_eq_true rfl) rfl rfl rfl rfl (Nat.le_of_ble_eq_true rfl) (Nat.le_of_ble_eq_true rfl) (Nat.le_of_ble_eq_true rfl) (by omega) (by omega) ?_
  refine tv_iload C dk_L_law_361 rfl ?_
  refine tv_icmp_eq C dk_L_law_363 (fun _ => ?_) (fun h => tv_no (h q2))
  refine tv_iload C dk_L_law_368 rfl ?_
  refine tv_if_ne C dk_L_law_370 (fun _ => ?_) (fun h1 => ?_)
  · refine tv_goto C dk_L_law_385 ?_
    refine tv_widen (k' := k + 2) (sl' := sl + 12) (by omega) (by omega) ?_
    exact tv_drop (L2 := [some (.ref b), some (.ref (E.G.2.1 + 0)), some (.ref (E.G.2.1 + 249)), some (.ref (E.G.2.1 + 257)), some (.ref (E.G.2.1 + 258)), some (.int (nI i)), none, none, none]) (by simp [tvSubL]) kk
  refine tv_aload_n C dk_L_law_373 rfl ?_
  refine tv_iconst (v := 0) C dk_L_law_374 (by decide) ?_
  refine tv_lald (j := 0) rfl C dk_L_law_375 (Nat.le_of_ble_eq_true rfl) rfl (vp_in_nI (n := 0) (by decide) (by decide)) ?_
  refine tv_iload C dk_L_law_376 rfl ?_
  refine tv_i2l C dk_L_law_378 ?_
  refine tv_lcmp C dk_L_law_379 ?_
  refine tv_if_eq C dk_L_law_380 (fun _ => ?_) (fun h => tv_no (h (q3 h1)))
  refine tv_goto C dk_L_law_385 ?_
  refine tv_widen (k' := k + 2) (sl' := sl + 12) (by omega) (by omega) ?_
  exact tv_drop (L2 := [some (.ref b), some (.ref (E.G.2.1 + 0)), some (.ref (E.G.2.1 + 249)), some (.ref (E.G.2.1 + 257)), some (.ref (E.G.2.1 + 258)), some (.int (nI i)), none, none, none]) (by simp [tvSubL]) kk
/-- case 2 -/
def lq_2 (M : tvM) (a1 a2 a3 : Int32) : Prop := (q_L_setTide M a1 a2) ∧ (q_X9_setTide ((f_L_setTide M a1 a2).2) a1 a2) ∧ ((f_X9_thrown ((f_X9_setTide ((f_L_setTide M a1 a2).2) a1 a2).2)) = (f_L_setTide M a1 a2).1) ∧ ((f_L_setTide M a1 a2).1 = 0 → (lg_cmp (tgl ((f_X9_setTide ((f_L_setTide M a1 a2).2) a1 a2).2) 257 0) (((f_X9_setTide ((f_L_setTide M a1 a2).2) a1 a2).1).toInt64)) = 0) ∧ True
def lm_2 (M : tvM) (a1 a2 a3 : Int32) : tvM := (f_X9_setTide ((f_L_setTide M a1 a2).2) a1 a2).2
theorem w_law_2 {E : tvE} {b Ln i k sl : Nat} {xs : Nat → Int32} (C : tvC E RL cL_law 9 (some .boolean) 1000 100000 1000000 []) (hN : tvNcE E.s) (hX : tvScr E b Ln xs) (hi : i + 4 ≤ Ln) (hk : k + 2 ≤ 100000) (hs : sl + 12 ≤ 1000000) (M : tvM) (hq : lq_2 M (xs (i + 1)) (xs (i + 2)) (xs (i + 3))) (kk : tv_W E tvP0 (k + 2) (sl + 12) (lm_2 M (xs (i + 1)) (xs (i + 2)) (xs (i + 3))) 2545 [some (.ref b), some (.ref (E.G.2.1 + 0)), some (.ref (E.G.2.1 + 249)), some (.ref (E.G.2.1 + 257)), some (.ref (E.G.2.1 + 258)), some (.int (nI i)), none, none, none] []) : tv_W E tvP0 k sl M 388 [some (.ref b), some (.ref (E.G.2.1 + 0)), some (.ref (E.G.2.1 + 249)), some (.ref (E.G.2.1 + 257)), some (.ref (E.G.2.1 + 258)), some (.int (nI i)), none, none, none] [] := by
  have hk0 : k ≤ 100000 := by omega
  have hs0 : sl ≤ 1000000 := by omega
  obtain ⟨q0, q1, q2, q3, -⟩ := hq
  refine tv_aload_n C dk_L_law_388 rfl ?_
  refine tv_aload_n C dk_L_law_389 rfl ?_
  refine tv_iload C dk_L_law_390 rfl ?_
  refine tv_iconst (v := 1) C dk_L_law_392 (by decide) ?_
  refine tv_iadd C dk_L_law_393 ?_
  refine tv_sld (j := i + 1) (tvl_1 hi hX.2.2.2) C hX dk_L_law_394 (tvli_1 hi hX.2.2.2) ?_
  refine tv_aload_n C dk_L_law_395 rfl ?_
  refine tv_iload C dk_L_law_396 rfl ?_
  refine tv_iconst (v := 2) C dk_L_law_398 (by decide) ?_
  refine tv_iadd C dk_L_law_399 ?_
  refine tv_sld (j := i + 2) (tvl_2 hi hX.2.2.2) C hX dk_L_law_400 (tvli_2 hi hX.2.2.2) ?_
  refine tv_aload_n C dk_L_law_401 rfl ?_
  refine tv_callSW C hN dk_L_law_402 ml_RL_159 yw_L_setTide yi_L_setTide (m_L_setTide _ M (xs (i + 1)) (xs (i + 2)) q0) rfl rfl (Nat.le_of_ble_eq_true rfl) (Nat.le_of_ble_eq_true rfl) (Nat.le_of_ble_eq_true rfl) (by omega) (by omega) rfl rfl rfl ?_
  refine tv_istore (L' := [_, _, _, _, _, _, _, _, _]) (hn := by decide) (hlt := (Nat.le_of_ble_eq_true rfl)) (hno := rfl) C dk_L_law_405 rfl ?_
  refine tv_aload_n C dk_L_law_407 rfl ?_
  refine tv_aload_n C dk_L_law_408 rfl ?_
  refine tv_iload C dk_L_law_409 rfl ?_
  refine tv_iconst (v := 1) C dk_L_law_411 (by decide) ?_
  refine tv_iadd C dk_L_law_412 ?_
  refine tv_sld (j := i + 1) (tvl_1 hi hX.2.2.2) C hX dk_L_law_413 (tvli_1 hi hX.2.2.2) ?_
  refine tv_aload_n C dk_L_law_414 rfl ?_
  refine tv_iload C dk_L_law_415 rfl ?_
  refine tv_iconst (v := 2) C dk_L_law_417 (by decide) ?_
  refine tv_iadd C dk_L_law_418 ?_
  refine tv_sld (j := i + 2) (tvl_2 hi hX.2.2.2) C hX dk_L_law_419 (tvli_2 hi hX.2.2.2) ?_
  refine tv_cV1 C dk_L_law_420 ml_RL_162 yk_X9_setTide yi_X9_setTide (m_X9_setTide _ ((f_L_setTide M (xs (i + 1)) (xs (i + 2))).2) (xs (i + 1)) (xs (i + 2)) q1) (Nat.le_of_ble_eq_true rfl) rfl rfl rfl rfl (Nat.le_of_ble_eq_true rfl) (Nat.le_of_ble_eq_true rfl) (Nat.le_of_ble_eq_true rfl) (by omega) (by omega) ?_
  refine tv_istore (L' := [_, _, _, _, _, _, _, _, _]) (hn := by decide) (hlt := (Nat.le_of_ble_eq_true rfl)) (hno := rfl) C dk_L_law_423 rfl ?_
  refine tv_aload_n C dk_L_law_425 rfl ?_
  refine tv_cV1 C dk_L_law_426 ml_RL_152 yk_X9_thrown yi_X9_thrown (m_X9_thrown _ ((f_X9_setTide ((f_L_setTide M (xs (i + 1)) (xs (i + 2))).2) (xs (i + 1)) (xs (i + 2))).2)) (Nat.le_of_ble_eq_true rfl) rfl rfl rfl rfl (Nat.le_of_ble_eq_true rfl) (Nat.le_of_ble_eq_true rfl) (Nat.le_of_ble_eq_true rfl) (by omega) (by omega) ?_
  refine tv_iload C dk_L_law_429 rfl ?_
  refine tv_icmp_eq C dk_L_law_431 (fun _ => ?_) (fun h => tv_no (h q2))
  refine tv_iload C dk_L_law_436 rfl ?_
  refine tv_if_ne C dk_L_law_438 (fun _ => ?_) (fun h1 => ?_)
  · refine tv_goto C dk_L_law_453 ?_
    refine tv_widen (k' := k + 2) (sl' := sl + 12) (by omega) (by omega) ?_
    exact tv_drop (L2 := [some (.ref b), some (.ref (E.G.2.1 + 0)), some (.ref (E.G.2.1 + 249)), some (.ref (E.G.2.1 + 257)), some (.ref (E.G.2.1 + 258)), some (.int (nI i)), none, none, none]) (by simp [tvSubL]) kk
  refine tv_aload_n C dk_L_law_441 rfl ?_
  refine tv_iconst (v := 0) C dk_L_law_442 (by decide) ?_
  refine tv_lald (j := 0) rfl C dk_L_law_443 (Nat.le_of_ble_eq_true rfl) rfl (vp_in_nI (n := 0) (by decide) (by decide)) ?_
  refine tv_iload C dk_L_law_444 rfl ?_
  refine tv_i2l C dk_L_law_446 ?_
  refine tv_lcmp C dk_L_law_447 ?_
  refine tv_if_eq C dk_L_law_448 (fun _ => ?_) (fun h => tv_no (h (q3 h1)))
  refine tv_goto C dk_L_law_453 ?_
  refine tv_widen (k' := k + 2) (sl' := sl + 12) (by omega) (by omega) ?_
  exact tv_drop (L2 := [some (.ref b), some (.ref (E.G.2.1 + 0)), some (.ref (E.G.2.1 + 249)), some (.ref (E.G.2.1 + 257)), some (.ref (E.G.2.1 + 258)), some (.int (nI i)), none, none, none]) (by simp [tvSubL]) kk
/-- case 3 -/
def lq_3 (M : tvM) (a1 a2 a3 : Int32) : Prop := (q_L_turnKey M a1 a2 a3) ∧ (q_X9_turnKey ((f_L_turnKey M a1 a2 a3).2) a1 a2 a3) ∧ ((f_X9_thrown ((f_X9_turnKey ((f_L_turnKey M a1 a2 a3).2) a1 a2 a3).2)) = (f_L_turnKey M a1 a2 a3).1) ∧ ((f_L_turnKey M a1 a2 a3).1 = 0 → (lg_cmp (tgl ((f_X9_turnKey ((f_L_turnKey M a1 a2 a3).2) a1 a2 a3).2) 257 0) (((f_X9_turnKey ((f_L_turnKey M a1 a2 a3).2) a1 a2 a3).1).toInt64)) = 0) ∧ True
def lm_3 (M : tvM) (a1 a2 a3 : Int32) : tvM := (f_X9_turnKey ((f_L_turnKey M a1 a2 a3).2) a1 a2 a3).2
theorem w_law_3 {E : tvE} {b Ln i k sl : Nat} {xs : Nat → Int32} (C : tvC E RL cL_law 9 (some .boolean) 1000 100000 1000000 []) (hN : tvNcE E.s) (hX : tvScr E b Ln xs) (hi : i + 4 ≤ Ln) (hk : k + 2 ≤ 100000) (hs : sl + 12 ≤ 1000000) (M : tvM) (hq : lq_3 M (xs (i + 1)) (xs (i + 2)) (xs (i + 3))) (kk : tv_W E tvP0 (k + 2) (sl + 12) (lm_3 M (xs (i + 1)) (xs (i + 2)) (xs (i + 3))) 2545 [some (.ref b), some (.ref (E.G.2.1 + 0)), some (.ref (E.G.2.1 + 249)), some (.ref (E.G.2.1 + 257)), some (.ref (E.G.2.1 + 258)), some (.int (nI i)), none, none, none] []) : tv_W E tvP0 k sl M 456 [some (.ref b), some (.ref (E.G.2.1 + 0)), some (.ref (E.G.2.1 + 249)), some (.ref (E.G.2.1 + 257)), some (.ref (E.G.2.1 + 258)), some (.int (nI i)), none, none, none] [] := by
  have hk0 : k ≤ 100000 := by omega
  have hs0 : sl ≤ 1000000 := by omega
  obtain ⟨q0, q1, q2, q3, -⟩ := hq
  refine tv_aload_n C dk_L_law_456 rfl ?_
  refine tv_aload_n C dk_L_law_457 rfl ?_
  refine tv_iload C dk_L_law_458 rfl ?_
  refine tv_iconst (v := 1) C dk_L_law_460 (by decide) ?_
  refine tv_iadd C dk_L_law_461 ?_
  refine tv_sld (j := i + 1) (tvl_1 hi hX.2.2.2) C hX dk_L_law_462 (tvli_1 hi hX.2.2.2) ?_
  refine tv_aload_n C dk_L_law_463 rfl ?_
  refine tv_iload C dk_L_law_464 rfl ?_
  refine tv_iconst (v := 2) C dk_L_law_466 (by decide) ?_
  refine tv_iadd C dk_L_law_467 ?_
  refine tv_sld (j := i + 2) (tvl_2 hi hX.2.2.2) C hX dk_L_law_468 (tvli_2 hi hX.2.2.2) ?_
  refine tv_aload_n C dk_L_law_469 rfl ?_
  refine tv_iload C dk_L_law_470 rfl ?_
  refine tv_iconst (v := 3) C dk_L_law_472 (by decide) ?_
  refine tv_iadd C dk_L_law_473 ?_
  refine tv_sld (j := i + 3) (tvl_3 hi hX.2.2.2) C hX dk_L_law_474 (tvli_3 hi hX.2.2.2) ?_
  refine tv_aload_n C dk_L_law_475 rfl ?_
  refine tv_callSW C hN dk_L_law_476 ml_RL_163 yw_L_turnKey yi_L_turnKey (m_L_turnKey _ M (xs (i + 1)) (xs (i + 2)) (xs (i + 3)) q0) rfl rfl (Nat.le_of_ble_eq_true rfl) (Nat.le_of_ble_eq_true rfl) (Nat.le_of_ble_eq_true rfl) (by omega) (by omega) rfl rfl rfl ?_
  refine tv_istore (L' := [_, _, _, _, _, _, _, _, _]) (hn := by decide) (hlt := (Nat.le_of_ble_eq_true rfl)) (hno := rfl) C dk_L_law_479 rfl ?_
  refine tv_aload_n C dk_L_law_481 rfl ?_
  refine tv_aload_n C dk_L_law_482 rfl ?_
  refine tv_iload C dk_L_law_483 rfl ?_
  refine tv_iconst (v := 1) C dk_L_law_485 (by decide) ?_
  refine tv_iadd C dk_L_law_486 ?_
  refine tv_sld (j := i + 1) (tvl_1 hi hX.2.2.2) C hX dk_L_law_487 (tvli_1 hi hX.2.2.2) ?_
  refine tv_aload_n C dk_L_law_488 rfl ?_
  refine tv_iload C dk_L_law_489 rfl ?_
  refine tv_iconst (v := 2) C dk_L_law_491 (by decide) ?_
  refine tv_iadd C dk_L_law_492 ?_
  refine tv_sld (j := i + 2) (tvl_2 hi hX.2.2.2) C hX dk_L_law_493 (tvli_2 hi hX.2.2.2) ?_
  refine tv_aload_n C dk_L_law_494 rfl ?_
  refine tv_iload C dk_L_law_495 rfl ?_
  refine tv_iconst (v := 3) C dk_L_law_497 (by decide) ?_
  refine tv_iadd C dk_L_law_498 ?_
  refine tv_sld (j := i + 3) (tvl_3 hi hX.2.2.2) C hX dk_L_law_499 (tvli_3 hi hX.2.2.2) ?_
  refine tv_cV1 C dk_L_law_500 ml_RL_165 yk_X9_turnKey yi_X9_turnKey (m_X9_turnKey _ ((f_L_turnKey M (xs (i + 1)) (xs (i + 2)) (xs (i + 3))).2) (xs (i + 1)) (xs (i + 2)) (xs (i + 3)) q1) (Nat.le_of_ble_eq_true rfl) rfl rfl rfl rfl (Nat.le_of_ble_eq_true rfl) (Nat.le_of_ble_eq_true rfl) (Nat.le_of_ble_eq_true rfl) (by omega) (by omega) ?_
  refine tv_istore (L' := [_, _, _, _, _, _, _, _, _]) (hn := by decide) (hlt := (Nat.le_of_ble_eq_true rfl)) (hno := rfl) C dk_L_law_503 rfl ?_
  refine tv_aload_n C dk_L_law_505 rfl ?_
  refine tv_cV1 C dk_L_law_506 ml_RL_152 yk_X9_thrown yi_X9_thrown (m_X9_thrown _ ((f_X9_turnKey ((f_L_turnKey M (xs (i + 1)) (xs (i + 2)) (xs (i + 3))).2) (xs (i + 1)) (xs (i + 2)) (xs (i + 3))).2)) (Nat.le_of_ble_eq_true rfl) rfl rfl rfl rfl (Nat.le_of_ble_eq_true rfl) (Nat.le_of_ble_eq_true rfl) (Nat.le_of_ble_eq_true rfl) (by omega) (by omega) ?_
  refine tv_iload C dk_L_law_509 rfl ?_
  refine tv_icmp_eq C dk_L_law_511 (fun _ => ?_) (fun h => tv_no (h q2))
  refine tv_iload C dk_L_law_516 rfl ?_
  refine tv_if_ne C dk_L_law_518 (fun _ => ?_) (fun h1 => ?_)
  · refine tv_goto C dk_L_law_533 ?_
    refine tv_widen (k' := k + 2) (sl' := sl + 12) (by omega) (by omega) ?_
    exact tv_drop (L2 := [some (.ref b), some (.ref (E.G.2.1 + 0)), some (.ref (E.G.2.1 + 249)), some (.ref (E.G.2.1 + 257)), some (.ref (E.G.2.1 + 258)), some (.int (nI i)), none, none, none]) (by simp [tvSubL]) kk
  refine tv_aload_n C dk_L_law_521 rfl ?_
  refine tv_iconst (v := 0) C dk_L_law_522 (by decide) ?_
  refine tv_lald (j := 0) rfl C dk_L_law_523 (Nat.le_of_ble_eq_true rfl) rfl (vp_in_nI (n := 0) (by decide) (by decide)) ?_
  refine tv_iload C dk_L_law_524 rfl ?_
  refine tv_i2l C dk_L_law_526 ?_
  refine tv_lcmp C dk_L_law_527 ?_
  refine tv_if_eq C dk_L_law_528 (fun _ => ?_) (fun h => tv_no (h (q3 h1)))
  refine tv_goto C dk_L_law_533 ?_
  refine tv_widen (k' := k + 2) (sl' := sl + 12) (by omega) (by omega) ?_
  exact tv_drop (L2 := [some (.ref b), some (.ref (E.G.2.1 + 0)), some (.ref (E.G.2.1 + 249)), some (.ref (E.G.2.1 + 257)), some (.ref (E.G.2.1 + 258)), some (.int (nI i)), none, none, none]) (by simp [tvSubL]) kk
/-- case 4 -/
def lq_4 (M : tvM) (a1 a2 a3 : Int32) : Prop := (q_L_changeCode M a1 a2 a3) ∧ (q_X9_changeCode ((f_L_changeCode M a1 a2 a3).2) a1 a2 a3) ∧ ((f_X9_thrown ((f_X9_changeCode ((f_L_changeCode M a1 a2 a3).2) a1 a2 a3).2)) = (f_L_changeCode M a1 a2 a3).1) ∧ ((f_L_changeCode M a1 a2 a3).1 = 0 → (lg_cmp (tgl ((f_X9_changeCode ((f_L_changeCode M a1 a2 a3).2) a1 a2 a3).2) 257 0) (((f_X9_changeCode ((f_L_changeCode M a1 a2 a3).2) a1 a2 a3).1).toInt64)) = 0) ∧ True
def lm_4 (M : tvM) (a1 a2 a3 : Int32) : tvM := (f_X9_changeCode ((f_L_changeCode M a1 a2 a3).2) a1 a2 a3).2
theorem w_law_4 {E : tvE} {b Ln i k sl : Nat} {xs : Nat → Int32} (C : tvC E RL cL_law 9 (some .boolean) 1000 100000 1000000 []) (hN : tvNcE E.s) (hX : tvScr E b Ln xs) (hi : i + 4 ≤ Ln) (hk : k + 2 ≤ 100000) (hs : sl + 12 ≤ 1000000) (M : tvM) (hq : lq_4 M (xs (i + 1)) (xs (i + 2)) (xs (i + 3))) (kk : tv_W E tvP0 (k + 2) (sl + 12) (lm_4 M (xs (i + 1)) (xs (i + 2)) (xs (i + 3))) 2545 [some (.ref b), some (.ref (E.G.2.1 + 0)), some (.ref (E.G.2.1 + 249)), some (.ref (E.G.2.1 + 257)), some (.ref (E.G.2.1 + 258)), some (.int (nI i)), none, none, none] []) : tv_W E tvP0 k sl M 536 [some (.ref b), some (.ref (E.G.2.1 + 0)), some (.ref (E.G.2.1 + 249)), some (.ref (E.G.2.1 + 257)), some (.ref (E.G.2.1 + 258)), some (.int (nI i)), none, none, none] [] := by
  have hk0 : k ≤ 100000 := by omega
  have hs0 : sl ≤ 1000000 := by omega
  obtain ⟨q0, q1, q2, q3, -⟩ := hq
  refine tv_aload_n C dk_L_law_536 rfl ?_
  refine tv_aload_n C dk_L_law_537 rfl ?_
  refine tv_iload C dk_L_law_538 rfl ?_
  refine tv_iconst (v := 1) C dk_L_law_540 (by decide) ?_
  refine tv_iadd C dk_L_law_541 ?_
  refine tv_sld (j := i + 1) (tvl_1 hi hX.2.2.2) C hX dk_L_law_542 (tvli_1 hi hX.2.2.2) ?_
  refine tv_aload_n C dk_L_law_543 rfl ?_
  refine tv_iload C dk_L_law_544 rfl ?_
  refine tv_iconst (v := 2) C dk_L_law_546 (by decide) ?_
  refine tv_iadd C dk_L_law_547 ?_
  refine tv_sld (j := i + 2) (tvl_2 hi hX.2.2.2) C hX dk_L_law_548 (tvli_2 hi hX.2.2.2) ?_
  refine tv_aload_n C dk_L_law_549 rfl ?_
  refine tv_iload C dk_L_law_550 rfl ?_
  refine tv_iconst (v := 3) C dk_L_law_552 (by decide) ?_
  refine tv_iadd C dk_L_law_553 ?_
  refine tv_sld (j := i + 3) (tvl_3 hi hX.2.2.2) C hX dk_L_law_554 (tvli_3 hi hX.2.2.2) ?_
  refine tv_aload_n C dk_L_law_555 rfl ?_
  refine tv_callSW C hN dk_L_law_556 ml_RL_166 yw_L_changeCode yi_L_changeCode (m_L_changeCode _ M (xs (i + 1)) (xs (i + 2)) (xs (i + 3)) q0) rfl rfl (Nat.le_of_ble_eq_true rfl) (Nat.le_of_ble_eq_true rfl) (Nat.le_of_ble_eq_true rfl) (by omega) (by omega) rfl rfl rfl ?_
  refine tv_istore (L' := [_, _, _, _, _, _, _, _, _]) (hn := by decide) (hlt := (Nat.le_of_ble_eq_true rfl)) (hno := rfl) C dk_L_law_559 rfl ?_
  refine tv_aload_n C dk_L_law_561 rfl ?_
  refine tv_aload_n C dk_L_law_562 rfl ?_
  refine tv_iload C dk_L_law_563 rfl ?_
  refine tv_iconst (v := 1) C dk_L_law_565 (by decide) ?_
  refine tv_iadd C dk_L_law_566 ?_
  refine tv_sld (j := i + 1) (tvl_1 hi hX.2.2.2) C hX dk_L_law_567 (tvli_1 hi hX.2.2.2) ?_
  refine tv_aload_n C dk_L_law_568 rfl ?_
  refine tv_iload C dk_L_law_569 rfl ?_
  refine tv_iconst (v := 2) C dk_L_law_571 (by decide) ?_
  refine tv_iadd C dk_L_law_572 ?_
  refine tv_sld (j := i + 2) (tvl_2 hi hX.2.2.2) C hX dk_L_law_573 (tvli_2 hi hX.2.2.2) ?_
  refine tv_aload_n C dk_L_law_574 rfl ?_
  refine tv_iload C dk_L_law_575 rfl ?_
  refine tv_iconst (v := 3) C dk_L_law_577 (by decide) ?_
  refine tv_iadd C dk_L_law_578 ?_
  refine tv_sld (j := i + 3) (tvl_3 hi hX.2.2.2) C hX dk_L_law_579 (tvli_3 hi hX.2.2.2) ?_
  refine tv_cV1 C dk_L_law_580 ml_RL_168 yk_X9_changeCode yi_X9_changeCode (m_X9_changeCode _ ((f_L_changeCode M (xs (i + 1)) (xs (i + 2)) (xs (i + 3))).2) (xs (i + 1)) (xs (i + 2)) (xs (i + 3)) q1) (Nat.le_of_ble_eq_true rfl) rfl rfl rfl rfl (Nat.le_of_ble_eq_true rfl) (Nat.le_of_ble_eq_true rfl) (Nat.le_of_ble_eq_true rfl) (by omega) (by omega) ?_
  refine tv_istore (L' := [_, _, _, _, _, _, _, _, _]) (hn := by decide) (hlt := (Nat.le_of_ble_eq_true rfl)) (hno := rfl) C dk_L_law_583 rfl ?_
  refine tv_aload_n C dk_L_law_585 rfl ?_
  refine tv_cV1 C dk_L_law_586 ml_RL_152 yk_X9_thrown yi_X9_thrown (m_X9_thrown _ ((f_X9_changeCode ((f_L_changeCode M (xs (i + 1)) (xs (i + 2)) (xs (i + 3))).2) (xs (i + 1)) (xs (i + 2)) (xs (i + 3))).2)) (Nat.le_of_ble_eq_true rfl) rfl rfl rfl rfl (Nat.le_of_ble_eq_true rfl) (Nat.le_of_ble_eq_true rfl) (Nat.le_of_ble_eq_true rfl) (by omega) (by omega) ?_
  refine tv_iload C dk_L_law_589 rfl ?_
  refine tv_icmp_eq C dk_L_law_591 (fun _ => ?_) (fun h => tv_no (h q2))
  refine tv_iload C dk_L_law_596 rfl ?_
  refine tv_if_ne C dk_L_law_598 (fun _ => ?_) (fun h1 => ?_)
  · refine tv_goto C dk_L_law_613 ?_
    refine tv_widen (k' := k + 2) (sl' := sl + 12) (by omega) (by omega) ?_
    exact tv_drop (L2 := [some (.ref b), some (.ref (E.G.2.1 + 0)), some (.ref (E.G.2.1 + 249)), some (.ref (E.G.2.1 + 257)), some (.ref (E.G.2.1 + 258)), some (.int (nI i)), none, none, none]) (by simp [tvSubL]) kk
  refine tv_aload_n C dk_L_law_601 rfl ?_
  refine tv_iconst (v := 0) C dk_L_law_602 (by decide) ?_
  refine tv_lald (j := 0) rfl C dk_L_law_603 (Nat.le_of_ble_eq_true rfl) rfl (vp_in_nI (n := 0) (by decide) (by decide)) ?_
  refine tv_iload C dk_L_law_604 rfl ?_
  refine tv_i2l C dk_L_law_606 ?_
  refine tv_lcmp C dk_L_law_607 ?_
  refine tv_if_eq C dk_L_law_608 (fun _ => ?_) (fun h => tv_no (h (q3 h1)))
  refine tv_goto C dk_L_law_613 ?_
  refine tv_widen (k' := k + 2) (sl' := sl + 12) (by omega) (by omega) ?_
  exact tv_drop (L2 := [some (.ref b), some (.ref (E.G.2.1 + 0)), some (.ref (E.G.2.1 + 249)), some (.ref (E.G.2.1 + 257)), some (.ref (E.G.2.1 + 258)), some (.int (nI i)), none, none, none]) (by simp [tvSubL]) kk
/-- case 5 -/
def lq_5 (M : tvM) (a1 a2 a3 : Int32) : Prop := (q_L_deposit M a1 a2) ∧ (q_X9_deposit ((f_L_deposit M a1 a2).2) a1 a2) ∧ ((f_X9_thrown ((f_X9_deposit ((f_L_deposit M a1 a2).2) a1 a2).2)) = (f_L_deposit M a1 a2).1) ∧ ((f_L_deposit M a1 a2).1 = 0 → (lg_cmp (tgl ((f_X9_deposit ((f_L_deposit M a1 a2).2) a1 a2).2) 257 0) (((f_X9_deposit ((f_L_deposit M a1 a2).2) a1 a2).1).toInt64)) = 0) ∧ True
def lm_5 (M : tvM) (a1 a2 a3 : Int32) : tvM := (f_X9_deposit ((f_L_deposit M a1 a2).2) a1 a2).2
theorem w_law_5 {E : tvE} {b Ln i k sl : Nat} {xs : Nat → Int32} (C : tvC E RL cL_law 9 (some .boolean) 1000 100000 1000000 []) (hN : tvNcE E.s) (hX : tvScr E b Ln xs) (hi : i + 4 ≤ Ln) (hk : k + 2 ≤ 100000) (hs : sl + 12 ≤ 1000000) (M : tvM) (hq : lq_5 M (xs (i + 1)) (xs (i + 2)) (xs (i + 3))) (kk : tv_W E tvP0 (k + 2) (sl + 12) (lm_5 M (xs (i + 1)) (xs (i + 2)) (xs (i + 3))) 2545 [some (.ref b), some (.ref (E.G.2.1 + 0)), some (.ref (E.G.2.1 + 249)), some (.ref (E.G.2.1 + 257)), some (.ref (E.G.2.1 + 258)), some (.int (nI i)), none, none, none] []) : tv_W E tvP0 k sl M 616 [some (.ref b), some (.ref (E.G.2.1 + 0)), some (.ref (E.G.2.1 + 249)), some (.ref (E.G.2.1 + 257)), some (.ref (E.G.2.1 + 258)), some (.int (nI i)), none, none, none] [] := by
  have hk0 : k ≤ 100000 := by omega
  have hs0 : sl ≤ 1000000 := by omega
  obtain ⟨q0, q1, q2, q3, -⟩ := hq
  refine tv_aload_n C dk_L_law_616 rfl ?_
  refine tv_aload_n C dk_L_law_617 rfl ?_
  refine tv_iload C dk_L_law_618 rfl ?_
  refine tv_iconst (v := 1) C dk_L_law_620 (by decide) ?_
  refine tv_iadd C dk_L_law_621 ?_
  refine tv_sld (j := i + 1) (tvl_1 hi hX.2.2.2) C hX dk_L_law_622 (tvli_1 hi hX.2.2.2) ?_
  refine tv_aload_n C dk_L_law_623 rfl ?_
  refine tv_iload C dk_L_law_624 rfl ?_
  refine tv_iconst (v := 2) C dk_L_law_626 (by decide) ?_
  refine tv_iadd C dk_L_law_627 ?_
  refine tv_sld (j := i + 2) (tvl_2 hi hX.2.2.2) C hX dk_L_law_628 (tvli_2 hi hX.2.2.2) ?_
  refine tv_aload_n C dk_L_law_629 rfl ?_
  refine tv_callSW C hN dk_L_law_630 ml_RL_169 yw_L_deposit yi_L_deposit (m_L_deposit _ M (xs (i + 1)) (xs (i + 2)) q0) rfl rfl (Nat.le_of_ble_eq_true rfl) (Nat.le_of_ble_eq_true rfl) (Nat.le_of_ble_eq_true rfl) (by omega) (by omega) rfl rfl rfl ?_
  refine tv_istore (L' := [_, _, _, _, _, _, _, _, _]) (hn := by decide) (hlt := (Nat.le_of_ble_eq_true rfl)) (hno := rfl) C dk_L_law_633 rfl ?_
  refine tv_aload_n C dk_L_law_635 rfl ?_
  refine tv_aload_n C dk_L_law_636 rfl ?_
  refine tv_iload C dk_L_law_637 rfl ?_
  refine tv_iconst (v := 1) C dk_L_law_639 (by decide) ?_
  refine tv_iadd C dk_L_law_640 ?_
  refine tv_sld (j := i + 1) (tvl_1 hi hX.2.2.2) C hX dk_L_law_641 (tvli_1 hi hX.2.2.2) ?_
  refine tv_aload_n C dk_L_law_642 rfl ?_
  refine tv_iload C dk_L_law_643 rfl ?_
  refine tv_iconst (v := 2) C dk_L_law_645 (by decide) ?_
  refine tv_iadd C dk_L_law_646 ?_
  refine tv_sld (j := i + 2) (tvl_2 hi hX.2.2.2) C hX dk_L_law_647 (tvli_2 hi hX.2.2.2) ?_
  refine tv_cV1 C dk_L_law_648 ml_RL_171 yk_X9_deposit yi_X9_deposit (m_X9_deposit _ ((f_L_deposit M (xs (i + 1)) (xs (i + 2))).2) (xs (i + 1)) (xs (i + 2)) q1) (Nat.le_of_ble_eq_true rfl) rfl rfl rfl rfl (Nat.le_of_ble_eq_true rfl) (Nat.le_of_ble_eq_true rfl) (Nat.le_of_ble_eq_true rfl) (by omega) (by omega) ?_
  refine tv_istore (L' := [_, _, _, _, _, _, _, _, _]) (hn := by decide) (hlt := (Nat.le_of_ble_eq_true rfl)) (hno := rfl) C dk_L_law_651 rfl ?_
  refine tv_aload_n C dk_L_law_653 rfl ?_
  refine tv_cV1 C dk_L_law_654 ml_RL_152 yk_X9_thrown yi_X9_thrown (m_X9_thrown _ ((f_X9_deposit ((f_L_deposit M (xs (i + 1)) (xs (i + 2))).2) (xs (i + 1)) (xs (i + 2))).2)) (Nat.le_of_ble_eq_true rfl) rfl rfl rfl rfl (Nat.le_of_ble_eq_true rfl) (Nat.le_of_ble_eq_true rfl) (Nat.le_of_ble_eq_true rfl) (by omega) (by omega) ?_
  refine tv_iload C dk_L_law_657 rfl ?_
  refine tv_icmp_eq C dk_L_law_659 (fun _ => ?_) (fun h => tv_no (h q2))
  refine tv_iload C dk_L_law_664 rfl ?_
  refine tv_if_ne C dk_L_law_666 (fun _ => ?_) (fun h1 => ?_)
  · refine tv_goto C dk_L_law_681 ?_
    refine tv_widen (k' := k + 2) (sl' := sl + 12) (by omega) (by omega) ?_
    exact tv_drop (L2 := [some (.ref b), some (.ref (E.G.2.1 + 0)), some (.ref (E.G.2.1 + 249)), some (.ref (E.G.2.1 + 257)), some (.ref (E.G.2.1 + 258)), some (.int (nI i)), none, none, none]) (by simp [tvSubL]) kk
  refine tv_aload_n C dk_L_law_669 rfl ?_
  refine tv_iconst (v := 0) C dk_L_law_670 (by decide) ?_
  refine tv_lald (j := 0) rfl C dk_L_law_671 (Nat.le_of_ble_eq_true rfl) rfl (vp_in_nI (n := 0) (by decide) (by decide)) ?_
  refine tv_iload C dk_L_law_672 rfl ?_
  refine tv_i2l C dk_L_law_674 ?_
  refine tv_lcmp C dk_L_law_675 ?_
  refine tv_if_eq C dk_L_law_676 (fun _ => ?_) (fun h => tv_no (h (q3 h1)))
  refine tv_goto C dk_L_law_681 ?_
  refine tv_widen (k' := k + 2) (sl' := sl + 12) (by omega) (by omega) ?_
  exact tv_drop (L2 := [some (.ref b), some (.ref (E.G.2.1 + 0)), some (.ref (E.G.2.1 + 249)), some (.ref (E.G.2.1 + 257)), some (.ref (E.G.2.1 + 258)), some (.int (nI i)), none, none, none]) (by simp [tvSubL]) kk
/-- case 6 -/
def lq_6 (M : tvM) (a1 a2 a3 : Int32) : Prop := (q_L_withdraw M a1) ∧ (q_X9_withdraw ((f_L_withdraw M a1).2) a1) ∧ ((f_X9_thrown ((f_X9_withdraw ((f_L_withdraw M a1).2) a1).2)) = (f_L_withdraw M a1).1) ∧ ((f_L_withdraw M a1).1 = 0 → (lg_cmp (tgl ((f_X9_withdraw ((f_L_withdraw M a1).2) a1).2) 257 0) (((f_X9_withdraw ((f_L_withdraw M a1).2) a1).1).toInt64)) = 0) ∧ True
def lm_6 (M : tvM) (a1 a2 a3 : Int32) : tvM := (f_X9_withdraw ((f_L_withdraw M a1).2) a1).2
theorem w_law_6 {E : tvE} {b Ln i k sl : Nat} {xs : Nat → Int32} (C : tvC E RL cL_law 9 (some .boolean) 1000 100000 1000000 []) (hN : tvNcE E.s) (hX : tvScr E b Ln xs) (hi : i + 4 ≤ Ln) (hk : k + 2 ≤ 100000) (hs : sl + 12 ≤ 1000000) (M : tvM) (hq : lq_6 M (xs (i + 1)) (xs (i + 2)) (xs (i + 3))) (kk : tv_W E tvP0 (k + 2) (sl + 12) (lm_6 M (xs (i + 1)) (xs (i + 2)) (xs (i + 3))) 2545 [some (.ref b), some (.ref (E.G.2.1 + 0)), some (.ref (E.G.2.1 + 249)), some (.ref (E.G.2.1 + 257)), some (.ref (E.G.2.1 + 258)), some (.int (nI i)), none, none, none] []) : tv_W E tvP0 k sl M 684 [some (.ref b), some (.ref (E.G.2.1 + 0)), some (.ref (E.G.2.1 + 249)), some (.ref (E.G.2.1 + 257)), some (.ref (E.G.2.1 + 258)), some (.int (nI i)), none, none, none] [] := by
  have hk0 : k ≤ 100000 := by omega
  have hs0 : sl ≤ 1000000 := by omega
  obtain ⟨q0, q1, q2, q3, -⟩ := hq
  refine tv_aload_n C dk_L_law_684 rfl ?_
  refine tv_aload_n C dk_L_law_685 rfl ?_
  refine tv_iload C dk_L_law_686 rfl ?_
  refine tv_iconst (v := 1) C dk_L_law_688 (by decide) ?_
  refine tv_iadd C dk_L_law_689 ?_
  refine tv_sld (j := i + 1) (tvl_1 hi hX.2.2.2) C hX dk_L_law_690 (tvli_1 hi hX.2.2.2) ?_
  refine tv_aload_n C dk_L_law_691 rfl ?_
  refine tv_callSW C hN dk_L_law_692 ml_RL_172 yw_L_withdraw yi_L_withdraw (m_L_withdraw _ M (xs (i + 1)) q0) rfl rfl (Nat.le_of_ble_eq_true rfl) (Nat.le_of_ble_eq_true rfl) (Nat.le_of_ble_eq_true rfl) (by omega) (by omega) rfl rfl rfl ?_
  refine tv_istore (L' := [_, _, _, _, _, _, _, _, _]) (hn := by decide) (hlt := (Nat.le_of_ble_eq_true rfl)) (hno := rfl) C dk_L_law_695 rfl ?_
  refine tv_aload_n C dk_L_law_697 rfl ?_
  refine tv_aload_n C dk_L_law_698 rfl ?_
  refine tv_iload C dk_L_law_699 rfl ?_
  refine tv_iconst (v := 1) C dk_L_law_701 (by decide) ?_
  refine tv_iadd C dk_L_law_702 ?_
  refine tv_sld (j := i + 1) (tvl_1 hi hX.2.2.2) C hX dk_L_law_703 (tvli_1 hi hX.2.2.2) ?_
  refine tv_cV1 C dk_L_law_704 ml_RL_174 yk_X9_withdraw yi_X9_withdraw (m_X9_withdraw _ ((f_L_withdraw M (xs (i + 1))).2) (xs (i + 1)) q1) (Nat.le_of_ble_eq_true rfl) rfl rfl rfl rfl (Nat.le_of_ble_eq_true rfl) (Nat.le_of_ble_eq_true rfl) (Nat.le_of_ble_eq_true rfl) (by omega) (by omega) ?_
  refine tv_istore (L' := [_, _, _, _, _, _, _, _, _]) (hn := by decide) (hlt := (Nat.le_of_ble_eq_true rfl)) (hno := rfl) C dk_L_law_707 rfl ?_
  refine tv_aload_n C dk_L_law_709 rfl ?_
  refine tv_cV1 C dk_L_law_710 ml_RL_152 yk_X9_thrown yi_X9_thrown (m_X9_thrown _ ((f_X9_withdraw ((f_L_withdraw M (xs (i + 1))).2) (xs (i + 1))).2)) (Nat.le_of_ble_eq_true rfl) rfl rfl rfl rfl (Nat.le_of_ble_eq_true rfl) (Nat.le_of_ble_eq_true rfl) (Nat.le_of_ble_eq_true rfl) (by omega) (by omega) ?_
  refine tv_iload C dk_L_law_713 rfl ?_
  refine tv_icmp_eq C dk_L_law_715 (fun _ => ?_) (fun h => tv_no (h q2))
  refine tv_iload C dk_L_law_720 rfl ?_
  refine tv_if_ne C dk_L_law_722 (fun _ => ?_) (fun h1 => ?_)
  · refine tv_goto C dk_L_law_737 ?_
    refine tv_widen (k' := k + 2) (sl' := sl + 12) (by omega) (by omega) ?_
    exact tv_drop (L2 := [some (.ref b), some (.ref (E.G.2.1 + 0)), some (.ref (E.G.2.1 + 249)), some (.ref (E.G.2.1 + 257)), some (.ref (E.G.2.1 + 258)), some (.int (nI i)), none, none, none]) (by simp [tvSubL]) kk
  refine tv_aload_n C dk_L_law_725 rfl ?_
  refine tv_iconst (v := 0) C dk_L_law_726 (by decide) ?_
  refine tv_lald (j := 0) rfl C dk_L_law_727 (Nat.le_of_ble_eq_true rfl) rfl (vp_in_nI (n := 0) (by decide) (by decide)) ?_
  refine tv_iload C dk_L_law_728 rfl ?_
  refine tv_i2l C dk_L_law_730 ?_
  refine tv_lcmp C dk_L_law_731 ?_
  refine tv_if_eq C dk_L_law_732 (fun _ => ?_) (fun h => tv_no (h (q3 h1)))
  refine tv_goto C dk_L_law_737 ?_
  refine tv_widen (k' := k + 2) (sl' := sl + 12) (by omega) (by omega) ?_
  exact tv_drop (L2 := [some (.ref b), some (.ref (E.G.2.1 + 0)), some (.ref (E.G.2.1 + 249)), some (.ref (E.G.2.1 + 257)), some (.ref (E.G.2.1 + 258)), some (.int (nI i)), none, none, none]) (by simp [tvSubL]) kk
/-- case 7 -/
def lq_7 (M : tvM) (a1 a2 a3 : Int32) : Prop := (q_L_close M a1) ∧ (q_X9_close ((f_L_close M a1).2) a1) ∧ ((f_X9_thrown ((f_X9_close ((f_L_close M a1).2) a1).2)) = (f_L_close M a1).1) ∧ ((f_L_close M a1).1 = 0 → (lg_cmp (tgl ((f_X9_close ((f_L_close M a1).2) a1).2) 257 0) (((f_X9_close ((f_L_close M a1).2) a1).1).toInt64)) = 0) ∧ True
def lm_7 (M : tvM) (a1 a2 a3 : Int32) : tvM := (f_X9_close ((f_L_close M a1).2) a1).2
theorem w_law_7 {E : tvE} {b Ln i k sl : Nat} {xs : Nat → Int32} (C : tvC E RL cL_law 9 (some .boolean) 1000 100000 1000000 []) (hN : tvNcE E.s) (hX : tvScr E b Ln xs) (hi : i + 4 ≤ Ln) (hk : k + 2 ≤ 100000) (hs : sl + 12 ≤ 1000000) (M : tvM) (hq : lq_7 M (xs (i + 1)) (xs (i + 2)) (xs (i + 3))) (kk : tv_W E tvP0 (k + 2) (sl + 12) (lm_7 M (xs (i + 1)) (xs (i + 2)) (xs (i + 3))) 2545 [some (.ref b), some (.ref (E.G.2.1 + 0)), some (.ref (E.G.2.1 + 249)), some (.ref (E.G.2.1 + 257)), some (.ref (E.G.2.1 + 258)), some (.int (nI i)), none, none, none] []) : tv_W E tvP0 k sl M 740 [some (.ref b), some (.ref (E.G.2.1 + 0)), some (.ref (E.G.2.1 + 249)), some (.ref (E.G.2.1 + 257)), some (.ref (E.G.2.1 + 258)), some (.int (nI i)), none, none, none] [] := by
  have hk0 : k ≤ 100000 := by omega
  have hs0 : sl ≤ 1000000 := by omega
  obtain ⟨q0, q1, q2, q3, -⟩ := hq
  refine tv_aload_n C dk_L_law_740 rfl ?_
  refine tv_aload_n C dk_L_law_741 rfl ?_
  refine tv_iload C dk_L_law_742 rfl ?_
  refine tv_iconst (v := 1) C dk_L_law_744 (by decide) ?_
  refine tv_iadd C dk_L_law_745 ?_
  refine tv_sld (j := i + 1) (tvl_1 hi hX.2.2.2) C hX dk_L_law_746 (tvli_1 hi hX.2.2.2) ?_
  refine tv_aload_n C dk_L_law_747 rfl ?_
  refine tv_callSW C hN dk_L_law_748 ml_RL_175 yw_L_close yi_L_close (m_L_close _ M (xs (i + 1)) q0) rfl rfl (Nat.le_of_ble_eq_true rfl) (Nat.le_of_ble_eq_true rfl) (Nat.le_of_ble_eq_true rfl) (by omega) (by omega) rfl rfl rfl ?_
  refine tv_istore (L' := [_, _, _, _, _, _, _, _, _]) (hn := by decide) (hlt := (Nat.le_of_ble_eq_true rfl)) (hno := rfl) C dk_L_law_751 rfl ?_
  refine tv_aload_n C dk_L_law_753 rfl ?_
  refine tv_aload_n C dk_L_law_754 rfl ?_
  refine tv_iload C dk_L_law_755 rfl ?_
  refine tv_iconst (v := 1) C dk_L_law_757 (by decide) ?_
  refine tv_iadd C dk_L_law_758 ?_
  refine tv_sld (j := i + 1) (tvl_1 hi hX.2.2.2) C hX dk_L_law_759 (tvli_1 hi hX.2.2.2) ?_
  refine tv_cV1 C dk_L_law_760 ml_RL_177 yk_X9_close yi_X9_close (m_X9_close _ ((f_L_close M (xs (i + 1))).2) (xs (i + 1)) q1) (Nat.le_of_ble_eq_true rfl) rfl rfl rfl rfl (Nat.le_of_ble_eq_true rfl) (Nat.le_of_ble_eq_true rfl) (Nat.le_of_ble_eq_true rfl) (by omega) (by omega) ?_
  refine tv_istore (L' := [_, _, _, _, _, _, _, _, _]) (hn := by decide) (hlt := (Nat.le_of_ble_eq_true rfl)) (hno := rfl) C dk_L_law_763 rfl ?_
  refine tv_aload_n C dk_L_law_765 rfl ?_
  refine tv_cV1 C dk_L_law_766 ml_RL_152 yk_X9_thrown yi_X9_thrown (m_X9_thrown _ ((f_X9_close ((f_L_close M (xs (i + 1))).2) (xs (i + 1))).2)) (Nat.le_of_ble_eq_true rfl) rfl rfl rfl rfl (Nat.le_of_ble_eq_true rfl) (Nat.le_of_ble_eq_true rfl) (Nat.le_of_ble_eq_true rfl) (by omega) (by omega) ?_
  refine tv_iload C dk_L_law_769 rfl ?_
  refine tv_icmp_eq C dk_L_law_771 (fun _ => ?_) (fun h => tv_no (h q2))
  refine tv_iload C dk_L_law_776 rfl ?_
  refine tv_if_ne C dk_L_law_778 (fun _ => ?_) (fun h1 => ?_)
  · refine tv_goto C dk_L_law_793 ?_
    refine tv_widen (k' := k + 2) (sl' := sl + 12) (by omega) (by omega) ?_
    exact tv_drop (L2 := [some (.ref b), some (.ref (E.G.2.1 + 0)), some (.ref (E.G.2.1 + 249)), some (.ref (E.G.2.1 + 257)), some (.ref (E.G.2.1 + 258)), some (.int (nI i)), none, none, none]) (by simp [tvSubL]) kk
  refine tv_aload_n C dk_L_law_781 rfl ?_
  refine tv_iconst (v := 0) C dk_L_law_782 (by decide) ?_
  refine tv_lald (j := 0) rfl C dk_L_law_783 (Nat.le_of_ble_eq_true rfl) rfl (vp_in_nI (n := 0) (by decide) (by decide)) ?_
  refine tv_iload C dk_L_law_784 rfl ?_
  refine tv_i2l C dk_L_law_786 ?_
  refine tv_lcmp C dk_L_law_787 ?_
  refine tv_if_eq C dk_L_law_788 (fun _ => ?_) (fun h => tv_no (h (q3 h1)))
  refine tv_goto C dk_L_law_793 ?_
  refine tv_widen (k' := k + 2) (sl' := sl + 12) (by omega) (by omega) ?_
  exact tv_drop (L2 := [some (.ref b), some (.ref (E.G.2.1 + 0)), some (.ref (E.G.2.1 + 249)), some (.ref (E.G.2.1 + 257)), some (.ref (E.G.2.1 + 258)), some (.int (nI i)), none, none, none]) (by simp [tvSubL]) kk
/-- case 8 -/
def lq_8 (M : tvM) (a1 a2 a3 : Int32) : Prop := (q_L_pass M a1) ∧ (q_X9_pass ((f_L_pass M a1).2) a1) ∧ ((f_X9_thrown ((f_X9_pass ((f_L_pass M a1).2) a1).2)) = (f_L_pass M a1).1) ∧ ((f_L_pass M a1).1 = 0 → (lg_cmp (tgl ((f_X9_pass ((f_L_pass M a1).2) a1).2) 257 0) (((f_X9_pass ((f_L_pass M a1).2) a1).1).toInt64)) = 0) ∧ True
def lm_8 (M : tvM) (a1 a2 a3 : Int32) : tvM := (f_X9_pass ((f_L_pass M a1).2) a1).2
theorem w_law_8 {E : tvE} {b Ln i k sl : Nat} {xs : Nat → Int32} (C : tvC E RL cL_law 9 (some .boolean) 1000 100000 1000000 []) (hN : tvNcE E.s) (hX : tvScr E b Ln xs) (hi : i + 4 ≤ Ln) (hk : k + 2 ≤ 100000) (hs : sl + 12 ≤ 1000000) (M : tvM) (hq : lq_8 M (xs (i + 1)) (xs (i + 2)) (xs (i + 3))) (kk : tv_W E tvP0 (k + 2) (sl + 12) (lm_8 M (xs (i + 1)) (xs (i + 2)) (xs (i + 3))) 2545 [some (.ref b), some (.ref (E.G.2.1 + 0)), some (.ref (E.G.2.1 + 249)), some (.ref (E.G.2.1 + 257)), some (.ref (E.G.2.1 + 258)), some (.int (nI i)), none, none, none] []) : tv_W E tvP0 k sl M 796 [some (.ref b), some (.ref (E.G.2.1 + 0)), some (.ref (E.G.2.1 + 249)), some (.ref (E.G.2.1 + 257)), some (.ref (E.G.2.1 + 258)), some (.int (nI i)), none, none, none] [] := by
  have hk0 : k ≤ 100000 := by omega
  have hs0 : sl ≤ 1000000 := by omega
  obtain ⟨q0, q1, q2, q3, -⟩ := hq
  refine tv_aload_n C dk_L_law_796 rfl ?_
  refine tv_aload_n C dk_L_law_797 rfl ?_
  refine tv_iload C dk_L_law_798 rfl ?_
  refine tv_iconst (v := 1) C dk_L_law_800 (by decide) ?_
  refine tv_iadd C dk_L_law_801 ?_
  refine tv_sld (j := i + 1) (tvl_1 hi hX.2.2.2) C hX dk_L_law_802 (tvli_1 hi hX.2.2.2) ?_
  refine tv_aload_n C dk_L_law_803 rfl ?_
  refine tv_callSW C hN dk_L_law_804 ml_RL_178 yw_L_pass yi_L_pass (m_L_pass _ M (xs (i + 1)) q0) rfl rfl (Nat.le_of_ble_eq_true rfl) (Nat.le_of_ble_eq_true rfl) (Nat.le_of_ble_eq_true rfl) (by omega) (by omega) rfl rfl rfl ?_
  refine tv_istore (L' := [_, _, _, _, _, _, _, _, _]) (hn := by decide) (hlt := (Nat.le_of_ble_eq_true rfl)) (hno := rfl) C dk_L_law_807 rfl ?_
  refine tv_aload_n C dk_L_law_809 rfl ?_
  refine tv_aload_n C dk_L_law_810 rfl ?_
  refine tv_iload C dk_L_law_811 rfl ?_
  refine tv_iconst (v := 1) C dk_L_law_813 (by decide) ?_
  refine tv_iadd C dk_L_law_814 ?_
  refine tv_sld (j := i + 1) (tvl_1 hi hX.2.2.2) C hX dk_L_law_815 (tvli_1 hi hX.2.2.2) ?_
  refine tv_cV1 C dk_L_law_816 ml_RL_180 yk_X9_pass yi_X9_pass (m_X9_pass _ ((f_L_pass M (xs (i + 1))).2) (xs (i + 1)) q1) (Nat.le_of_ble_eq_true rfl) rfl rfl rfl rfl (Nat.le_of_ble_eq_true rfl) (Nat.le_of_ble_eq_true rfl) (Nat.le_of_ble_eq_true rfl) (by omega) (by omega) ?_
  refine tv_istore (L' := [_, _, _, _, _, _, _, _, _]) (hn := by decide) (hlt := (Nat.le_of_ble_eq_true rfl)) (hno := rfl) C dk_L_law_819 rfl ?_
  refine tv_aload_n C dk_L_law_821 rfl ?_
  refine tv_cV1 C dk_L_law_822 ml_RL_152 yk_X9_thrown yi_X9_thrown (m_X9_thrown _ ((f_X9_pass ((f_L_pass M (xs (i + 1))).2) (xs (i + 1))).2)) (Nat.le_of_ble_eq_true rfl) rfl rfl rfl rfl (Nat.le_of_ble_eq_true rfl) (Nat.le_of_ble_eq_true rfl) (Nat.le_of_ble_eq_true rfl) (by omega) (by omega) ?_
  refine tv_iload C dk_L_law_825 rfl ?_
  refine tv_icmp_eq C dk_L_law_827 (fun _ => ?_) (fun h => tv_no (h q2))
  refine tv_iload C dk_L_law_832 rfl ?_
  refine tv_if_ne C dk_L_law_834 (fun _ => ?_) (fun h1 => ?_)
  · refine tv_goto C dk_L_law_849 ?_
    refine tv_widen (k' := k + 2) (sl' := sl + 12) (by omega) (by omega) ?_
    exact tv_drop (L2 := [some (.ref b), some (.ref (E.G.2.1 + 0)), some (.ref (E.G.2.1 + 249)), some (.ref (E.G.2.1 + 257)), some (.ref (E.G.2.1 + 258)), some (.int (nI i)), none, none, none]) (by simp [tvSubL]) kk
  refine tv_aload_n C dk_L_law_837 rfl ?_
  refine tv_iconst (v := 0) C dk_L_law_838 (by decide) ?_
  refine tv_lald (j := 0) rfl C dk_L_law_839 (Nat.le_of_ble_eq_true rfl) rfl (vp_in_nI (n := 0) (by decide) (by decide)) ?_
  refine tv_iload C dk_L_law_840 rfl ?_
  refine tv_i2l C dk_L_law_842 ?_
  refine tv_lcmp C dk_L_law_843 ?_
  refine tv_if_eq C dk_L_law_844 (fun _ => ?_) (fun h => tv_no (h (q3 h1)))
  refine tv_goto C dk_L_law_849 ?_
  refine tv_widen (k' := k + 2) (sl' := sl + 12) (by omega) (by omega) ?_
  exact tv_drop (L2 := [some (.ref b), some (.ref (E.G.2.1 + 0)), some (.ref (E.G.2.1 + 249)), some (.ref (E.G.2.1 + 257)), some (.ref (E.G.2.1 + 258)), some (.int (nI i)), none, none, none]) (by simp [tvSubL]) kk
/-- case 9 -/
def lq_9 (M : tvM) (a1 a2 a3 : Int32) : Prop := ((f_X8_time M) = (f_X9_time M).1) ∧ True
def lm_9 (M : tvM) (a1 a2 a3 : Int32) : tvM := (f_X9_time M).2
theorem w_law_9 {E : tvE} {b Ln i k sl : Nat} {xs : Nat → Int32} (C : tvC E RL cL_law 9 (some .boolean) 1000 100000 1000000 []) (hN : tvNcE E.s) (hX : tvScr E b Ln xs) (hi : i + 4 ≤ Ln) (hk : k + 2 ≤ 100000) (hs : sl + 12 ≤ 1000000) (M : tvM) (hq : lq_9 M (xs (i + 1)) (xs (i + 2)) (xs (i + 3))) (kk : tv_W E tvP0 (k + 2) (sl + 12) (lm_9 M (xs (i + 1)) (xs (i + 2)) (xs (i + 3))) 2545 [some (.ref b), some (.ref (E.G.2.1 + 0)), some (.ref (E.G.2.1 + 249)), some (.ref (E.G.2.1 + 257)), some (.ref (E.G.2.1 + 258)), some (.int (nI i)), none, none, none] []) : tv_W E tvP0 k sl M 852 [some (.ref b), some (.ref (E.G.2.1 + 0)), some (.ref (E.G.2.1 + 249)), some (.ref (E.G.2.1 + 257)), some (.ref (E.G.2.1 + 258)), some (.int (nI i)), none, none, none] [] := by
  have hk0 : k ≤ 100000 := by omega
  have hs0 : sl ≤ 1000000 := by omega
  obtain ⟨q0, -⟩ := hq
  refine tv_aload_n C dk_L_law_852 rfl ?_
  refine tv_cV1 C dk_L_law_853 ml_RL_181 yk_X8_time yi_X8_time (m_X8_time _ M) (Nat.le_of_ble_eq_true rfl) rfl rfl rfl rfl (Nat.le_of_ble_eq_true rfl) (Nat.le_of_ble_eq_true rfl) (Nat.le_of_ble_eq_true rfl) (by omega) (by omega) ?_
  refine tv_aload_n C dk_L_law_856 rfl ?_
  refine tv_cV1 C dk_L_law_857 ml_RL_184 yk_X9_time yi_X9_time (m_X9_time _ M) (Nat.le_of_ble_eq_true rfl) rfl rfl rfl rfl (Nat.le_of_ble_eq_true rfl) (Nat.le_of_ble_eq_true rfl) (Nat.le_of_ble_eq_true rfl) (by omega) (by omega) ?_
  refine tv_icmp_eq C dk_L_law_860 (fun _ => ?_) (fun h => tv_no (h q0))
  refine tv_widen (k' := k + 2) (sl' := sl + 12) (by omega) (by omega) ?_
  exact tv_drop (L2 := [some (.ref b), some (.ref (E.G.2.1 + 0)), some (.ref (E.G.2.1 + 249)), some (.ref (E.G.2.1 + 257)), some (.ref (E.G.2.1 + 258)), some (.int (nI i)), none, none, none]) (by simp [tvSubL]) kk
/-- case 10 -/
def lq_10 (M : tvM) (a1 a2 a3 : Int32) : Prop := (q_X9_isLowTide M) ∧ ((f_X8_isLowTide M) = (f_X9_isLowTide M).1) ∧ True
def lm_10 (M : tvM) (a1 a2 a3 : Int32) : tvM := (f_X9_isLowTide M).2
theorem w_law_10 {E : tvE} {b Ln i k sl : Nat} {xs : Nat → Int32} (C : tvC E RL cL_law 9 (some .boolean) 1000 100000 1000000 []) (hN : tvNcE E.s) (hX : tvScr E b Ln xs) (hi : i + 4 ≤ Ln) (hk : k + 2 ≤ 100000) (hs : sl + 12 ≤ 1000000) (M : tvM) (hq : lq_10 M (xs (i + 1)) (xs (i + 2)) (xs (i + 3))) (kk : tv_W E tvP0 (k + 2) (sl + 12) (lm_10 M (xs (i + 1)) (xs (i + 2)) (xs (i + 3))) 2545 [some (.ref b), some (.ref (E.G.2.1 + 0)), some (.ref (E.G.2.1 + 249)), some (.ref (E.G.2.1 + 257)), some (.ref (E.G.2.1 + 258)), some (.int (nI i)), none, none, none] []) : tv_W E tvP0 k sl M 865 [some (.ref b), some (.ref (E.G.2.1 + 0)), some (.ref (E.G.2.1 + 249)), some (.ref (E.G.2.1 + 257)), some (.ref (E.G.2.1 + 258)), some (.int (nI i)), none, none, none] [] := by
  have hk0 : k ≤ 100000 := by omega
  have hs0 : sl ≤ 1000000 := by omega
  obtain ⟨q0, q1, -⟩ := hq
  refine tv_aload_n C dk_L_law_865 rfl ?_
  refine tv_cV1 C dk_L_law_866 ml_RL_185 yk_X8_isLowTide yi_X8_isLowTide (m_X8_isLowTide _ M) (Nat.le_of_ble_eq_true rfl) rfl rfl rfl rfl (Nat.le_of_ble_eq_true rfl) (Nat.le_of_ble_eq_true rfl) (Nat.le_of_ble_eq_true rfl) (by omega) (by omega) ?_
  refine tv_aload_n C dk_L_law_869 rfl ?_
  refine tv_cV1 C dk_L_law_870 ml_RL_188 yk_X9_isLowTide yi_X9_isLowTide (m_X9_isLowTide _ M q0) (Nat.le_of_ble_eq_true rfl) rfl rfl rfl rfl (Nat.le_of_ble_eq_true rfl) (Nat.le_of_ble_eq_true rfl) (Nat.le_of_ble_eq_true rfl) (by omega) (by omega) ?_
  refine tv_icmp_eq C dk_L_law_873 (fun _ => ?_) (fun h => tv_no (h q1))
  refine tv_widen (k' := k + 2) (sl' := sl + 12) (by omega) (by omega) ?_
  exact tv_drop (L2 := [some (.ref b), some (.ref (E.G.2.1 + 0)), some (.ref (E.G.2.1 + 249)), some (.ref (E.G.2.1 + 257)), some (.ref (E.G.2.1 + 258)), some (.int (nI i)), none, none, none]) (by simp [tvSubL]) kk
/-- case 11 -/
def lq_11 (M : tvM) (a1 a2 a3 : Int32) : Prop := (q_L_lowMinutes M a1) ∧ (q_X9_lowMinutes ((f_L_lowMinutes M a1).2) a1) ∧ ((f_X9_thrown ((f_X9_lowMinutes ((f_L_lowMinutes M a1).2) a1).2)) = (f_L_lowMinutes M a1).1) ∧ ((f_L_lowMinutes M a1).1 = 0 → (lg_cmp (tgl ((f_X9_lowMinutes ((f_L_lowMinutes M a1).2) a1).2) 257 0) (((f_X9_lowMinutes ((f_L_lowMinutes M a1).2) a1).1).toInt64)) = 0) ∧ True
def lm_11 (M : tvM) (a1 a2 a3 : Int32) : tvM := (f_X9_lowMinutes ((f_L_lowMinutes M a1).2) a1).2
theorem w_law_11 {E : tvE} {b Ln i k sl : Nat} {xs : Nat → Int32} (C : tvC E RL cL_law 9 (some .boolean) 1000 100000 1000000 []) (hN : tvNcE E.s) (hX : tvScr E b Ln xs) (hi : i + 4 ≤ Ln) (hk : k + 2 ≤ 100000) (hs : sl + 12 ≤ 1000000) (M : tvM) (hq : lq_11 M (xs (i + 1)) (xs (i + 2)) (xs (i + 3))) (kk : tv_W E tvP0 (k + 2) (sl + 12) (lm_11 M (xs (i + 1)) (xs (i + 2)) (xs (i + 3))) 2545 [some (.ref b), some (.ref (E.G.2.1 + 0)), some (.ref (E.G.2.1 + 249)), some (.ref (E.G.2.1 + 257)), some (.ref (E.G.2.1 + 258)), some (.int (nI i)), none, none, none] []) : tv_W E tvP0 k sl M 878 [some (.ref b), some (.ref (E.G.2.1 + 0)), some (.ref (E.G.2.1 + 249)), some (.ref (E.G.2.1 + 257)), some (.ref (E.G.2.1 + 258)), some (.int (nI i)), none, none, none] [] := by
  have hk0 : k ≤ 100000 := by omega
  have hs0 : sl ≤ 1000000 := by omega
  obtain ⟨q0, q1, q2, q3, -⟩ := hq
  refine tv_aload_n C dk_L_law_878 rfl ?_
  refine tv_aload_n C dk_L_law_879 rfl ?_
  refine tv_iload C dk_L_law_880 rfl ?_
  refine tv_iconst (v := 1) C dk_L_law_882 (by decide) ?_
  refine tv_iadd C dk_L_law_883 ?_
  refine tv_sld (j := i + 1) (tvl_1 hi hX.2.2.2) C hX dk_L_law_884 (tvli_1 hi hX.2.2.2) ?_
  refine tv_aload_n C dk_L_law_885 rfl ?_
  refine tv_callSW C hN dk_L_law_886 ml_RL_189 yw_L_lowMinutes yi_L_lowMinutes (m_L_lowMinutes _ M (xs (i + 1)) q0) rfl rfl (Nat.le_of_ble_eq_true rfl) (Nat.le_of_ble_eq_true rfl) (Nat.le_of_ble_eq_true rfl) (by omega) (by omega) rfl rfl rfl ?_
  refine tv_istore (L' := [_, _, _, _, _, _, _, _, _]) (hn := by decide) (hlt := (Nat.le_of_ble_eq_true rfl)) (hno := rfl) C dk_L_law_889 rfl ?_
  refine tv_aload_n C dk_L_law_891 rfl ?_
  refine tv_aload_n C dk_L_law_892 rfl ?_
  refine tv_iload C dk_L_law_893 rfl ?_
  refine tv_iconst (v := 1) C dk_L_law_895 (by decide) ?_
  refine tv_iadd C dk_L_law_896 ?_
  refine tv_sld (j := i + 1) (tvl_1 hi hX.2.2.2) C hX dk_L_law_897 (tvli_1 hi hX.2.2.2) ?_
  refine tv_cV1 C dk_L_law_898 ml_RL_191 yk_X9_lowMinutes yi_X9_lowMinutes (n_X9_lowMinutes _ ((f_L_lowMinutes M (xs (i + 1))).2) (xs (i + 1)) q1) (Nat.le_of_ble_eq_true rfl) rfl rfl rfl rfl (Nat.le_of_ble_eq_true rfl) (Nat.le_of_ble_eq_true rfl) (Nat.le_of_ble_eq_true rfl) (by omega) (by omega) ?_
  refine tv_istore (L' := [_, _, _, _, _, _, _, _, _]) (hn := by decide) (hlt := (Nat.le_of_ble_eq_true rfl)) (hno := rfl) C dk_L_law_901 rfl ?_
  refine tv_aload_n C dk_L_law_903 rfl ?_
  refine tv_cV1 C dk_L_law_904 ml_RL_152 yk_X9_thrown yi_X9_thrown (m_X9_thrown _ ((f_X9_lowMinutes ((f_L_lowMinutes M (xs (i + 1))).2) (xs (i + 1))).2)) (Nat.le_of_ble_eq_true rfl) rfl rfl rfl rfl (Nat.le_of_ble_eq_true rfl) (Nat.le_of_ble_eq_true rfl) (Nat.le_of_ble_eq_true rfl) (by omega) (by omega) ?_
  refine tv_iload C dk_L_law_907 rfl ?_
  refine tv_icmp_eq C dk_L_law_909 (fun _ => ?_) (fun h => tv_no (h q2))
  refine tv_iload C dk_L_law_914 rfl ?_
  refine tv_if_ne C dk_L_law_916 (fun _ => ?_) (fun h1 => ?_)
  · refine tv_goto C dk_L_law_931 ?_
    refine tv_widen (k' := k + 2) (sl' := sl + 12) (by omega) (by omega) ?_
    exact tv_drop (L2 := [some (.ref b), some (.ref (E.G.2.1 + 0)), some (.ref (E.G.2.1 + 249)), some (.ref (E.G.2.1 + 257)), some (.ref (E.G.2.1 + 258)), some (.int (nI i)), none, none, none]) (by simp [tvSubL]) kk
  refine tv_aload_n C dk_L_law_919 rfl ?_
  refine tv_iconst (v := 0) C dk_L_law_920 (by decide) ?_
  refine tv_lald (j := 0) rfl C dk_L_law_921 (Nat.le_of_ble_eq_true rfl) rfl (vp_in_nI (n := 0) (by decide) (by decide)) ?_
  refine tv_iload C dk_L_law_922 rfl ?_
  refine tv_i2l C dk_L_law_924 ?_
  refine tv_lcmp C dk_L_law_925 ?_
  refine tv_if_eq C dk_L_law_926 (fun _ => ?_) (fun h => tv_no (h (q3 h1)))
  refine tv_goto C dk_L_law_931 ?_
  refine tv_widen (k' := k + 2) (sl' := sl + 12) (by omega) (by omega) ?_
  exact tv_drop (L2 := [some (.ref b), some (.ref (E.G.2.1 + 0)), some (.ref (E.G.2.1 + 249)), some (.ref (E.G.2.1 + 257)), some (.ref (E.G.2.1 + 258)), some (.int (nI i)), none, none, none]) (by simp [tvSubL]) kk
