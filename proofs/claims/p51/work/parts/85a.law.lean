/-! ===== texts made by the law ===== -/
theorem sbB.app {G : tvG} {X : va_W} {i j p n m : Nat} (l : va_W) (h : sbB G X i j p n m) : sbB G (X ++ l) i j p n m := by
  obtain ⟨q, z, f, h1, h2, h3⟩ := h
  exact ⟨q, z, f, sb_app l h1, sb_app l h2, h3⟩
theorem sbB.lt {G : tvG} {X : va_W} {i j p n m : Nat} (h : sbB G X i j p n m) : i < X.length ∧ j < X.length := by
  obtain ⟨q, z, f, h1, h2, h3⟩ := h
  exact ⟨sb_lt h1, sb_lt h2⟩
theorem sbB.keep {G : tvG} {X X1 : va_W} {i0 j0 p0 n0 m0 i j j1 : Nat} (h : sbB G X i0 j0 p0 n0 m0) (hK : sbK X X1 i j j1) (h1 : i0 < i) (h2 : j0 < i) (h3 : i < j) : sbB G X1 i0 j0 p0 n0 m0 := by
  obtain ⟨q, z, f, a, b, c⟩ := h
  exact ⟨q, z, f, by rw [hK.2.1 i0 (sb_lt a) (by omega) (by omega)]; exact a, by rw [hK.2.1 j0 (sb_lt b) (by omega) (by omega)]; exact b, c⟩
theorem sbK.lt {G : tvG} {X X1 : va_W} {i j j1 p n m : Nat} (hK : sbK X X1 i j j1) (hB : sbB G X i j p n m) (h : i < j) : i < j1 := by
  have := hB.lt
  rcases hK.2.2 with e | e <;> omega
theorem sb_2a (X : va_W) (a b : Nat × va_E) : (X ++ [a, b])[X.length]? = some a := by
  rw [List.getElem?_append_right (Nat.le_refl _), Nat.sub_self]
  rfl
theorem sb_2b (X : va_W) (a b : Nat × va_E) : (X ++ [a, b])[X.length + 1]? = some b := by
  rw [List.getElem?_append_right (by omega), Nat.add_sub_cancel_left]
  rfl
theorem sbB_new {G : tvG} (X : va_W) (p q : Nat) : sbB G (X ++ [sbO p q 0 0, sbA G q 16 (fun _ => 0)]) X.length (X.length + 1) p 0 16 :=
  ⟨q, 0, _, sb_2a X _ _, sb_2b X _ _, by omega, byF_0, fun k hk => absurd hk (Nat.not_lt_zero k)⟩
theorem sbT_str {G : tvG} (X : va_W) (a b n j : Nat) (g : Nat → Int32) (hj : j < X.length) : sbT G (X ++ [(a, .inr (10, [.ref b, .int 0, .int 0, .int 0])), sbA G b n g]) j a b n g :=
  Or.inr ⟨X.length, X.length + 1, _, by omega, sb_2a X _ _, rfl, rfl, sb_2b X _ _⟩
theorem z_cat {st : List Value} {v : Value} (h : (st.map fun v => v.category).sum ≤ 6) (hv : v.category = 1) : ((v :: st).map fun v => v.category).sum ≤ 8 := by
  rw [List.map_cons, List.sum_cons, hv]
  omega
theorem zt_27 (G : tvG) (X : va_W) (j : Nat) : sbT G X j (G.2.2.2.2.1 27) (G.2.2.2.2.2.1 27) 1 (fun j => (tvBytL.getD 0 []).getD j 0) := Or.inl ⟨6, tvLenL, tvBytL, fun j => G.2.2.2.2.1 (27 + j), fun j => G.2.2.2.2.2.1 (27 + j), 0, fun U H h => h.law, by decide, rfl, rfl, rfl, rfl⟩
theorem zg_27 : byG 1 (fun j => (tvBytL.getD 0 []).getD j 0) := by
  intro k hk
  obtain rfl : k = 0 := by omega
  exact ⟨32, by decide, by decide, rfl⟩
theorem zt_28 (G : tvG) (X : va_W) (j : Nat) : sbT G X j (G.2.2.2.2.1 28) (G.2.2.2.2.2.1 28) 1 (fun j => (tvBytL.getD 1 []).getD j 0) := Or.inl ⟨6, tvLenL, tvBytL, fun j => G.2.2.2.2.1 (27 + j), fun j => G.2.2.2.2.2.1 (27 + j), 1, fun U H h => h.law, by decide, rfl, rfl, rfl, rfl⟩
theorem zg_28 : byG 1 (fun j => (tvBytL.getD 1 []).getD j 0) := by
  intro k hk
  obtain rfl : k = 0 := by omega
  exact ⟨61, by decide, by decide, rfl⟩
theorem zt_29 (G : tvG) (X : va_W) (j : Nat) : sbT G X j (G.2.2.2.2.1 29) (G.2.2.2.2.2.1 29) 6 (fun j => (tvBytL.getD 2 []).getD j 0) := Or.inl ⟨6, tvLenL, tvBytL, fun j => G.2.2.2.2.1 (27 + j), fun j => G.2.2.2.2.2.1 (27 + j), 2, fun U H h => h.law, by decide, rfl, rfl, rfl, rfl⟩
theorem zg_29 : byG 6 (fun j => (tvBytL.getD 2 []).getD j 0) := by
  intro k hk
  rcases (show k = 0 ∨ k = 1 ∨ k = 2 ∨ k = 3 ∨ k = 4 ∨ k = 5 by omega) with rfl | rfl | rfl | rfl | rfl | rfl
  · exact ⟨59, by decide, by decide, rfl⟩
  · exact ⟨119, by decide, by decide, rfl⟩
  · exact ⟨97, by decide, by decide, rfl⟩
  · exact ⟨105, by decide, by decide, rfl⟩
  · exact ⟨116, by decide, by decide, rfl⟩
  · exact ⟨32, by decide, by decide, rfl⟩
theorem zt_30 (G : tvG) (X : va_W) (j : Nat) : sbT G X j (G.2.2.2.2.1 30) (G.2.2.2.2.2.1 30) 5 (fun j => (tvBytL.getD 3 []).getD j 0) := Or.inl ⟨6, tvLenL, tvBytL, fun j => G.2.2.2.2.1 (27 + j), fun j => G.2.2.2.2.2.1 (27 + j), 3, fun U H h => h.law, by decide, rfl, rfl, rfl, rfl⟩
theorem zg_30 : byG 5 (fun j => (tvBytL.getD 3 []).getD j 0) := by
  intro k hk
  rcases (show k = 0 ∨ k = 1 ∨ k = 2 ∨ k = 3 ∨ k = 4 by omega) with rfl | rfl | rfl | rfl | rfl
  · exact ⟨59, by decide, by decide, rfl⟩
  · exact ⟨112, by decide, by decide, rfl⟩
  · exact ⟨117, by decide, by decide, rfl⟩
  · exact ⟨116, by decide, by decide, rfl⟩
  · exact ⟨32, by decide, by decide, rfl⟩
theorem zt_31 (G : tvG) (X : va_W) (j : Nat) : sbT G X j (G.2.2.2.2.1 31) (G.2.2.2.2.2.1 31) 6 (fun j => (tvBytL.getD 4 []).getD j 0) := Or.inl ⟨6, tvLenL, tvBytL, fun j => G.2.2.2.2.1 (27 + j), fun j => G.2.2.2.2.2.1 (27 + j), 4, fun U H h => h.law, by decide, rfl, rfl, rfl, rfl⟩
theorem zg_31 : byG 6 (fun j => (tvBytL.getD 4 []).getD j 0) := by
  intro k hk
  rcases (show k = 0 ∨ k = 1 ∨ k = 2 ∨ k = 3 ∨ k = 4 ∨ k = 5 by omega) with rfl | rfl | rfl | rfl | rfl | rfl
  · exact ⟨59, by decide, by decide, rfl⟩
  · exact ⟨116, by decide, by decide, rfl⟩
  · exact ⟨97, by decide, by decide, rfl⟩
  · exact ⟨107, by decide, by decide, rfl⟩
  · exact ⟨101, by decide, by decide, rfl⟩
  · exact ⟨32, by decide, by decide, rfl⟩
theorem zt_32 (G : tvG) (X : va_W) (j : Nat) : sbT G X j (G.2.2.2.2.1 32) (G.2.2.2.2.2.1 32) 7 (fun j => (tvBytL.getD 5 []).getD j 0) := Or.inl ⟨6, tvLenL, tvBytL, fun j => G.2.2.2.2.1 (27 + j), fun j => G.2.2.2.2.2.1 (27 + j), 5, fun U H h => h.law, by decide, rfl, rfl, rfl, rfl⟩
theorem zg_32 : byG 7 (fun j => (tvBytL.getD 5 []).getD j 0) := by
  intro k hk
  rcases (show k = 0 ∨ k = 1 ∨ k = 2 ∨ k = 3 ∨ k = 4 ∨ k = 5 ∨ k = 6 by omega) with rfl | rfl | rfl | rfl | rfl | rfl | rfl
  · exact ⟨59, by decide, by decide, rfl⟩
  · exact ⟨99, by decide, by decide, rfl⟩
  · exact ⟨108, by decide, by decide, rfl⟩
  · exact ⟨111, by decide, by decide, rfl⟩
  · exact ⟨115, by decide, by decide, rfl⟩
  · exact ⟨101, by decide, by decide, rfl⟩
  · exact ⟨32, by decide, by decide, rfl⟩
theorem zt_3 (G : tvG) (X : va_W) (j : Nat) : sbT G X j (G.2.2.2.2.1 3) (G.2.2.2.2.2.1 3) 5 (fun j => (tvByt.getD 3 []).getD j 0) := Or.inl ⟨tvNS, tvLen, tvByt, G.2.2.2.2.1, G.2.2.2.2.2.1, 3, fun U H h => h.2.2.2.1, by decide, rfl, rfl, rfl, rfl⟩
theorem zg_3 : byG 5 (fun j => (tvByt.getD 3 []).getD j 0) := by
  intro k hk
  rcases (show k = 0 ∨ k = 1 ∨ k = 2 ∨ k = 3 ∨ k = 4 by omega) with rfl | rfl | rfl | rfl | rfl
  · exact ⟨116, by decide, by decide, rfl⟩
  · exact ⟨117, by decide, by decide, rfl⟩
  · exact ⟨114, by decide, by decide, rfl⟩
  · exact ⟨110, by decide, by decide, rfl⟩
  · exact ⟨32, by decide, by decide, rfl⟩

theorem ml_RL_140 : Cond.methodLink RL 140 yJ4_init_da8c8 ∈ tvGW := tvgc (tvc_4 (List.mem_of_getElem? (i := 204) (by decide +kernel))) rfl
theorem ml_RL_143 : Cond.methodLink RL 143 yJ4_append_15ec4 ∈ tvGW := tvgc (tvc_4 (List.mem_of_getElem? (i := 234) (by decide +kernel))) rfl
theorem ml_RL_147 : Cond.methodLink RL 147 yJ4_append_bf812 ∈ tvGW := tvgc (tvc_5 (List.mem_of_getElem? (i := 108) (by decide +kernel))) rfl
theorem ml_RL_156 : Cond.methodLink RL 156 yJ4_toString_0e30d ∈ tvGW := tvgc (tvc_5 (List.mem_of_getElem? (i := 136) (by decide +kernel))) rfl
theorem im_J4_init_da8c8 : Cond.instanceMethod yJ4_init_da8c8 ∈ tvGW := tvgc (tvc_4 (List.mem_of_getElem? (i := 205) (by decide +kernel))) rfl
theorem im_J4_append_15ec4 : Cond.instanceMethod yJ4_append_15ec4 ∈ tvGW := tvgc (tvc_4 (List.mem_of_getElem? (i := 235) (by decide +kernel))) rfl
theorem xs_J4_append_15ec4 (args : Array Value) (s : State) (hts : ∀ w ∈ tvGW, w.before args s = true) (hN : ∀ w ∈ tvNest, va_Nw w s) : (Cond.selects "java/lang/StringBuilder" yJ4_append_15ec4 yJ4_append_15ec4).before args s = true := hts _ (tvgc (tvc_4 (List.mem_of_getElem? (i := 236) (by decide +kernel))) rfl)
theorem im_J4_append_bf812 : Cond.instanceMethod yJ4_append_bf812 ∈ tvGW := tvgc (tvc_5 (List.mem_of_getElem? (i := 109) (by decide +kernel))) rfl
theorem xs_J4_append_bf812 (args : Array Value) (s : State) (hts : ∀ w ∈ tvGW, w.before args s = true) (hN : ∀ w ∈ tvNest, va_Nw w s) : (Cond.selects "java/lang/StringBuilder" yJ4_append_bf812 yJ4_append_bf812).before args s = true := hts _ (tvgc (tvc_5 (List.mem_of_getElem? (i := 110) (by decide +kernel))) rfl)
theorem im_J4_toString_0e30d : Cond.instanceMethod yJ4_toString_0e30d ∈ tvGW := tvgc (tvc_5 (List.mem_of_getElem? (i := 137) (by decide +kernel))) rfl
theorem xs_J4_toString_0e30d (args : Array Value) (s : State) (hts : ∀ w ∈ tvGW, w.before args s = true) (hN : ∀ w ∈ tvNest, va_Nw w s) : (Cond.selects "java/lang/StringBuilder" yJ4_toString_0e30d yJ4_toString_0e30d).before args s = true := hts _ (tvgc (tvc_5 (List.mem_of_getElem? (i := 138) (by decide +kernel))) rfl)
theorem xn_sb : tvNw RL 138 9 := ⟨_, _, _, rfl, rfl, xi_9, tyJ4_ok, tvgc (tvc_4 (List.mem_of_getElem? (i := 202) (by decide +kernel))) rfl, tvgc (tvc_4 (List.mem_of_getElem? (i := 203) (by decide +kernel))) rfl, tvgc (tvc_1 (List.mem_of_getElem? (i := 23) (by decide +kernel))) rfl, fun k hk => by rcases (show k = 0 ∨ k = 1 ∨ k = 2 ∨ k = 3 by omega) with rfl | rfl | rfl | rfl <;> decide⟩
theorem ml_RL_166 : Cond.methodLink RL 166 yL_does ∈ tvGW := tvgc (tvc_5 (List.mem_of_getElem? (i := 202) (by decide +kernel))) rfl
theorem yi_L_does : Cond.static yL_does ∈ tvGW := tvgc (tvc_5 (List.mem_of_getElem? (i := 203) (by decide +kernel))) rfl
def dl_L_acts_g0 : List (Nat × Instr × Nat) := [(312, .aload_n 0, 1), (313, .new 138, 3), (316, .dup, 1), (317, .invokespecial 140, 3), (320, .ldc 141, 2), (322, .invokevirtual 143, 3), (325, .iload_n 3, 1), (326, .invokevirtual 147, 3), (329, .ldc 150, 2), (331, .invokevirtual 143, 3), (334, .iload 4, 2), (336, .invokevirtual 147, 3), (339, .ldc 152, 2), (341, .invokevirtual 143, 3), (344, .iload 5, 2), (346, .iconst 5, 1), (347, .irem, 1), (348, .ifCond .ne 8, 3), (351, .iload 5, 2), (353, .goto 8, 3), (356, .bipush 7, 2), (358, .iload 4, 2), (360, .imul, 1), (361, .invokevirtual 147, 3), (364, .iload 5, 2), (366, .iconst 3, 1), (367, .irem, 1), (368, .ifCond .ne 26, 3), (371, .new 138, 3), (374, .dup, 1), (375, .invokespecial 140, 3), (378, .ldc 154, 2), (380, .invokevirtual 143, 3), (383, .iload 5, 2), (385, .invokevirtual 147, 3), (388, .invokevirtual 156, 3), (391, .goto 71, 3), (394, .iload 5, 2), (396, .iconst 3, 1), (397, .irem, 1), (398, .iconst 1, 1), (399, .if_icmp .ne 44, 3), (402, .new 138, 3), (405, .dup, 1), (406, .invokespecial 140, 3), (409, .ldc 160, 2), (411, .invokevirtual 143, 3), (414, .iload_n 3, 1), (415, .invokevirtual 147, 3), (418, .ldc 152, 2), (420, .invokevirtual 143, 3), (423, .iload 5, 2), (425, .invokevirtual 147, 3), (428, .ldc 162, 2), (430, .invokevirtual 143, 3), (433, .iload_n 3, 1), (434, .invokevirtual 147, 3), (437, .invokevirtual 156, 3), (440, .goto 22, 3), (443, .new 138, 3)]
theorem dlk_L_acts_g0 : tvDl cL_acts dl_L_acts_g0 = true := by decide +kernel
theorem dk_L_acts_312 : tvD cL_acts 312 (.aload_n 0) 1 313 := tvDl_get dlk_L_acts_g0 0 rfl rfl
theorem dk_L_acts_313 : tvD cL_acts 313 (.new 138) 3 316 := tvDl_get dlk_L_acts_g0 1 rfl rfl
theorem dk_L_acts_316 : tvD cL_acts 316 (.dup) 1 317 := tvDl_get dlk_L_acts_g0 2 rfl rfl
theorem dk_L_acts_317 : tvD cL_acts 317 (.invokespecial 140) 3 320 := tvDl_get dlk_L_acts_g0 3 rfl rfl
theorem dk_L_acts_320 : tvD cL_acts 320 (.ldc 141) 2 322 := tvDl_get dlk_L_acts_g0 4 rfl rfl
theorem dk_L_acts_322 : tvD cL_acts 322 (.invokevirtual 143) 3 325 := tvDl_get dlk_L_acts_g0 5 rfl rfl
theorem dk_L_acts_325 : tvD cL_acts 325 (.iload_n 3) 1 326 := tvDl_get dlk_L_acts_g0 6 rfl rfl
theorem dk_L_acts_326 : tvD cL_acts 326 (.invokevirtual 147) 3 329 := tvDl_get dlk_L_acts_g0 7 rfl rfl
theorem dk_L_acts_329 : tvD cL_acts 329 (.ldc 150) 2 331 := tvDl_get dlk_L_acts_g0 8 rfl rfl
theorem dk_L_acts_331 : tvD cL_acts 331 (.invokevirtual 143) 3 334 := tvDl_get dlk_L_acts_g0 9 rfl rfl
theorem dk_L_acts_334 : tvD cL_acts 334 (.iload 4) 2 336 := tvDl_get dlk_L_acts_g0 10 rfl rfl
theorem dk_L_acts_336 : tvD cL_acts 336 (.invokevirtual 147) 3 339 := tvDl_get dlk_L_acts_g0 11 rfl rfl
theorem dk_L_acts_339 : tvD cL_acts 339 (.ldc 152) 2 341 := tvDl_get dlk_L_acts_g0 12 rfl rfl
theorem dk_L_acts_341 : tvD cL_acts 341 (.invokevirtual 143) 3 344 := tvDl_get dlk_L_acts_g0 13 rfl rfl
theorem dk_L_acts_344 : tvD cL_acts 344 (.iload 5) 2 346 := tvDl_get dlk_L_acts_g0 14 rfl rfl
theorem dk_L_acts_346 : tvD cL_acts 346 (.iconst 5) 1 347 := tvDl_get dlk_L_acts_g0 15 rfl rfl
theorem dk_L_acts_347 : tvD cL_acts 347 (.irem) 1 348 := tvDl_get dlk_L_acts_g0 16 rfl rfl
theorem dk_L_acts_348 : tvJ cL_acts 348 (.ifCond .ne) 356 351 := tvJl_get dlk_L_acts_g0 17 rfl (by decide) rfl
theorem dk_L_acts_351 : tvD cL_acts 351 (.iload 5) 2 353 := tvDl_get dlk_L_acts_g0 18 rfl rfl
theorem dk_L_acts_353 : tvJ cL_acts 353 .goto 361 356 := tvJl_get dlk_L_acts_g0 19 rfl (by decide) rfl
theorem dk_L_acts_356 : tvD cL_acts 356 (.bipush 7) 2 358 := tvDl_get dlk_L_acts_g0 20 rfl rfl
theorem dk_L_acts_358 : tvD cL_acts 358 (.iload 4) 2 360 := tvDl_get dlk_L_acts_g0 21 rfl rfl
theorem dk_L_acts_360 : tvD cL_acts 360 (.imul) 1 361 := tvDl_get dlk_L_acts_g0 22 rfl rfl
theorem dk_L_acts_361 : tvD cL_acts 361 (.invokevirtual 147) 3 364 := tvDl_get dlk_L_acts_g0 23 rfl rfl
theorem dk_L_acts_364 : tvD cL_acts 364 (.iload 5) 2 366 := tvDl_get dlk_L_acts_g0 24 rfl rfl
theorem dk_L_acts_366 : tvD cL_acts 366 (.iconst 3) 1 367 := tvDl_get dlk_L_acts_g0 25 rfl rfl
theorem dk_L_acts_367 : tvD cL_acts 367 (.irem) 1 368 := tvDl_get dlk_L_acts_g0 26 rfl rfl
theorem dk_L_acts_368 : tvJ cL_acts 368 (.ifCond .ne) 394 371 := tvJl_get dlk_L_acts_g0 27 rfl (by decide) rfl
theorem dk_L_acts_371 : tvD cL_acts 371 (.new 138) 3 374 := tvDl_get dlk_L_acts_g0 28 rfl rfl
theorem dk_L_acts_374 : tvD cL_acts 374 (.dup) 1 375 := tvDl_get dlk_L_acts_g0 29 rfl rfl
theorem dk_L_acts_375 : tvD cL_acts 375 (.invokespecial 140) 3 378 := tvDl_get dlk_L_acts_g0 30 rfl rfl
theorem dk_L_acts_378 : tvD cL_acts 378 (.ldc 154) 2 380 := tvDl_get dlk_L_acts_g0 31 rfl rfl
theorem dk_L_acts_380 : tvD cL_acts 380 (.invokevirtual 143) 3 383 := tvDl_get dlk_L_acts_g0 32 rfl rfl
theorem dk_L_acts_383 : tvD cL_acts 383 (.iload 5) 2 385 := tvDl_get dlk_L_acts_g0 33 rfl rfl
theorem dk_L_acts_385 : tvD cL_acts 385 (.invokevirtual 147) 3 388 := tvDl_get dlk_L_acts_g0 34 rfl rfl
theorem dk_L_acts_388 : tvD cL_acts 388 (.invokevirtual 156) 3 391 := tvDl_get dlk_L_acts_g0 35 rfl rfl
theorem dk_L_acts_391 : tvJ cL_acts 391 .goto 462 394 := tvJl_get dlk_L_acts_g0 36 rfl (by decide) rfl
theorem dk_L_acts_394 : tvD cL_acts 394 (.iload 5) 2 396 := tvDl_get dlk_L_acts_g0 37 rfl rfl
theorem dk_L_acts_396 : tvD cL_acts 396 (.iconst 3) 1 397 := tvDl_get dlk_L_acts_g0 38 rfl rfl
theorem dk_L_acts_397 : tvD cL_acts 397 (.irem) 1 398 := tvDl_get dlk_L_acts_g0 39 rfl rfl
theorem dk_L_acts_398 : tvD cL_acts 398 (.iconst 1) 1 399 := tvDl_get dlk_L_acts_g0 40 rfl rfl
theorem dk_L_acts_399 : tvJ cL_acts 399 (.if_icmp .ne) 443 402 := tvJl_get dlk_L_acts_g0 41 rfl (by decide) rfl
theorem dk_L_acts_402 : tvD cL_acts 402 (.new 138) 3 405 := tvDl_get dlk_L_acts_g0 42 rfl rfl
theorem dk_L_acts_405 : tvD cL_acts 405 (.dup) 1 406 := tvDl_get dlk_L_acts_g0 43 rfl rfl
theorem dk_L_acts_406 : tvD cL_acts 406 (.invokespecial 140) 3 409 := tvDl_get dlk_L_acts_g0 44 rfl rfl
theorem dk_L_acts_409 : tvD cL_acts 409 (.ldc 160) 2 411 := tvDl_get dlk_L_acts_g0 45 rfl rfl
theorem dk_L_acts_411 : tvD cL_acts 411 (.invokevirtual 143) 3 414 := tvDl_get dlk_L_acts_g0 46 rfl rfl
theorem dk_L_acts_414 : tvD cL_acts 414 (.iload_n 3) 1 415 := tvDl_get dlk_L_acts_g0 47 rfl rfl
theorem dk_L_acts_415 : tvD cL_acts 415 (.invokevirtual 147) 3 418 := tvDl_get dlk_L_acts_g0 48 rfl rfl
theorem dk_L_acts_418 : tvD cL_acts 418 (.ldc 152) 2 420 := tvDl_get dlk_L_acts_g0 49 rfl rfl
theorem dk_L_acts_420 : tvD cL_acts 420 (.invokevirtual 143) 3 423 := tvDl_get dlk_L_acts_g0 50 rfl rfl
theorem dk_L_acts_423 : tvD cL_acts 423 (.iload 5) 2 425 := tvDl_get dlk_L_acts_g0 51 rfl rfl
theorem dk_L_acts_425 : tvD cL_acts 425 (.invokevirtual 147) 3 428 := tvDl_get dlk_L_acts_g0 52 rfl rfl
theorem dk_L_acts_428 : tvD cL_acts 428 (.ldc 162) 2 430 := tvDl_get dlk_L_acts_g0 53 rfl rfl
theorem dk_L_acts_430 : tvD cL_acts 430 (.invokevirtual 143) 3 433 := tvDl_get dlk_L_acts_g0 54 rfl rfl
theorem dk_L_acts_433 : tvD cL_acts 433 (.iload_n 3) 1 434 := tvDl_get dlk_L_acts_g0 55 rfl rfl
theorem dk_L_acts_434 : tvD cL_acts 434 (.invokevirtual 147) 3 437 := tvDl_get dlk_L_acts_g0 56 rfl rfl
theorem dk_L_acts_437 : tvD cL_acts 437 (.invokevirtual 156) 3 440 := tvDl_get dlk_L_acts_g0 57 rfl rfl
theorem dk_L_acts_440 : tvJ cL_acts 440 .goto 462 443 := tvJl_get dlk_L_acts_g0 58 rfl (by decide) rfl
theorem dk_L_acts_443 : tvD cL_acts 443 (.new 138) 3 446 := tvDl_get dlk_L_acts_g0 59 rfl rfl
def dl_L_acts_g1 : List (Nat × Instr × Nat) := [(446, .dup, 1), (447, .invokespecial 140, 3), (450, .ldc 164, 2), (452, .invokevirtual 143, 3), (455, .iload_n 3, 1), (456, .invokevirtual 147, 3), (459, .invokevirtual 156, 3), (462, .invokevirtual 143, 3), (465, .invokevirtual 156, 3), (468, .invokestatic 166, 3), (471, .ireturn, 1)]
theorem dlk_L_acts_g1 : tvDl cL_acts dl_L_acts_g1 = true := by decide +kernel
theorem dk_L_acts_446 : tvD cL_acts 446 (.dup) 1 447 := tvDl_get dlk_L_acts_g1 0 rfl rfl
theorem dk_L_acts_447 : tvD cL_acts 447 (.invokespecial 140) 3 450 := tvDl_get dlk_L_acts_g1 1 rfl rfl
theorem dk_L_acts_450 : tvD cL_acts 450 (.ldc 164) 2 452 := tvDl_get dlk_L_acts_g1 2 rfl rfl
theorem dk_L_acts_452 : tvD cL_acts 452 (.invokevirtual 143) 3 455 := tvDl_get dlk_L_acts_g1 3 rfl rfl
theorem dk_L_acts_455 : tvD cL_acts 455 (.iload_n 3) 1 456 := tvDl_get dlk_L_acts_g1 4 rfl rfl
theorem dk_L_acts_456 : tvD cL_acts 456 (.invokevirtual 147) 3 459 := tvDl_get dlk_L_acts_g1 5 rfl rfl
theorem dk_L_acts_459 : tvD cL_acts 459 (.invokevirtual 156) 3 462 := tvDl_get dlk_L_acts_g1 6 rfl rfl
theorem dk_L_acts_462 : tvD cL_acts 462 (.invokevirtual 143) 3 465 := tvDl_get dlk_L_acts_g1 7 rfl rfl
theorem dk_L_acts_465 : tvD cL_acts 465 (.invokevirtual 156) 3 468 := tvDl_get dlk_L_acts_g1 8 rfl rfl
theorem dk_L_acts_468 : tvD cL_acts 468 (.invokestatic 166) 3 471 := tvDl_get dlk_L_acts_g1 9 rfl rfl
theorem dk_L_acts_471 : tvD cL_acts 471 (.ireturn) 1 472 := tvDl_get dlk_L_acts_g1 10 rfl rfl
