theorem f_X8_run_0 {M M' : tvM} {v : Int32} (hp : f_X5_parse M = (v, M')) (hne : ¬ v = -1) : f_X8_run M = (some "java/lang/IllegalArgumentException", 0, tpi (tpi M' 243 1 0) 0 7 v) := by
  unfold f_X8_run
  rw [hp]
  dsimp only
  rw [if_neg hne]
  unfold f_X5_empty
  exact Eq.refl _
theorem f_L_run_0 {M K : tvM} {v : Int32} (h : f_X8_run M = (some "java/lang/IllegalArgumentException", v, K)) : f_L_run M = (1, K) ∧ q_L_run M := by
  refine ⟨?_, fun e he => ?_, trivial⟩
  · unfold f_L_run
    rw [h]
    simp
  · rw [h] at he
    exact Or.inl (Option.some.inj he).symm
theorem f_L_run_1 {M K : tvM} {v : Int32} (h : f_X8_run M = (some "java/lang/UnsupportedOperationException", v, K)) : f_L_run M = (2, K) ∧ q_L_run M := by
  refine ⟨?_, fun e he => ?_, trivial⟩
  · unfold f_L_run
    rw [h]
    simp
  · rw [h] at he
    exact Or.inr (Option.some.inj he).symm
theorem f_L_run_2 {M K : tvM} {v : Int32} (h : f_X8_run M = (none, v, K)) : f_L_run M = (0, tpl K 257 0 v.toInt64) ∧ q_L_run M := by
  refine ⟨?_, fun e he => ?_, trivial⟩
  · unfold f_L_run
    rw [h]
    rfl
  · rw [h] at he
    exact absurd he (by simp)
theorem lq_41_of {M R K : tvM} {t v : Int32} (a1 a2 a3 : Int32) (hL : f_L_run M = (t, K) ∧ q_L_run M) (e9 : f_X9_run K = (v, R)) (q9 : q_X9_run K) (h5 : R.1 249 5 = t) (h0 : t = 0 → R.2.1 257 0 = v.toInt64) : lq_41 M a1 a2 a3 ∧ lm_41 M a1 a2 a3 = R := by
  unfold lq_41 lm_41
  rw [hL.1]
  dsimp only
  rw [e9]
  refine ⟨⟨hL.2, q9, h5, fun q => ?_, trivial⟩, rfl⟩
  rw [show tgl R 257 0 = v.toInt64 from h0 q]
  exact lg_self _
theorem pRun_fail {B : Nat} {M : tvM} {s : Nat → Nat} {x n : Nat} (hJ : pJs B M M s x n) (hr : pJr B M M) {len : Nat} {T : Nat → Nat} (hT : pTx len T M M) {M' Na : tvM} {p' : Nat} (hp : f_X5_parse M = (nI p', M')) (hf : pRf len M M M' Na p') (a1 a2 a3 : Int32) : lq_41 M a1 a2 a3 ∧ pJ B (lm_41 M a1 a2 a3) (lm_41 M a1 a2 a3) := by
  have hn := hT.1
  obtain ⟨⟨_, _, hpl⟩, ⟨g1, g2⟩, _⟩ := hf
  have hne : ¬ nI p' = -1 := fun e => pn_m1ne (c := p') (by omega) e.symm
  have hL := f_L_run_0 (f_X8_run_0 hp hne)
  obtain ⟨M1, hM1⟩ : ∃ z, z = tpi (tpi M' 243 1 0) 0 7 (nI p') := ⟨_, rfl⟩
  rw [← hM1] at hL
  have m2 : M1.2 = M.2 := by rw [hM1]; exact g2
  have m1 : ∀ a, a ≠ 0 → a ≠ 243 → a ≠ 245 → a ≠ 246 → M1.1 a = M.1 a := fun a q1 q2 q3 q4 => funext fun j => by
    rw [hM1, tpi_o _ _ j q1, tpi_o _ _ j q2]
    exact g1 a j q3 q4 (by omega)
  have m0 : ∀ j, j ≠ 7 → M1.1 0 j = M.1 0 j := fun j q => by
    rw [hM1, tpi_k _ _ _ q, tpi_o _ _ j (by omega)]
    exact g1 0 j (by omega) (by omega) (by omega)
  have m7 : M1.1 0 7 = nI p' := by rw [hM1]; exact tpi_s _ _ _ _
  have m3 : M1.1 243 1 = 0 := by rw [hM1, tpi_o _ _ _ (by omega)]; exact tpi_s _ _ _ _
  clear hM1
  obtain ⟨R, e9, q9, r2, r0, r9, r5, r6, r15⟩ := pRun_e0 hT hp (by omega) (show pMr M M1 from fun a q1 q2 => m1 a (by omega) (by omega) (by omega) (by omega))
  have cR : ∀ a, a ≠ 0 → a ≠ 243 → a ≠ 245 → a ≠ 246 → a ≠ 249 → a ≠ 256 → R.1 a = M.1 a := fun a q1 q2 q3 q4 q5 q6 => (r0 a q5 q6).trans (m1 a q1 q2 q3 q4)
  have c0 : ∀ j, j ≠ 7 → R.1 0 j = M.1 0 j := fun j q => (congrFun (r0 0 (by omega) (by omega)) j).trans (m0 j q)
  have c9 : ∀ j, j ≠ 5 → j ≠ 6 → ¬ (15 ≤ j ∧ j ≤ 17) → R.1 249 j = M.1 249 j := fun j q1 q2 q3 => (r9 j q1 q2 q3).trans (congrFun (m1 249 (by omega) (by omega) (by omega) (by omega)) j)
  have cl : R.2 = M.2 := r2.trans m2
  have cl1 : ∀ a, R.2.1 a = M.2.1 a := fun a => by rw [cl]
  have hs : pJs B R R s x n := pJs_c hJ (fun a k q1 q2 => by rw [cR a (by omega) (by omega) (by omega) (by omega) (by omega) (by omega)]) (fun a _ => cl1 a) (fun k => by rw [cR 250 (by omega) (by omega) (by omega) (by omega) (by omega) (by omega)]) (fun k => by rw [cR 253 (by omega) (by omega) (by omega) (by omega) (by omega) (by omega)]) (c9 4 (by omega) (by omega) (by omega))
  have hv : pSav B R R := pSav_c hr.1 (c0 6 (by omega)) (fun a k q1 q2 => by rw [cR a (by omega) (by omega) (by omega) (by omega) (by omega) (by omega)]) (by rw [cl1]) (c9 9 (by omega) (by omega) (by omega)) (fun k => by rw [cR 252 (by omega) (by omega) (by omega) (by omega) (by omega) (by omega)])
  have hli : pLin R R := pLin_c hr.2.2.2 (by rw [cR 247 (by omega) (by omega) (by omega) (by omega) (by omega) (by omega)]) (fun k => by rw [cR 248 (by omega) (by omega) (by omega) (by omega) (by omega) (by omega)]) (c9 12 (by omega) (by omega) (by omega)) (fun k => by rw [cR 254 (by omega) (by omega) (by omega) (by omega) (by omega) (by omega)])
  have he : pErr R R := by
    obtain ⟨_, k2, k3, k4⟩ := hr.2.1
    unfold pErr
    rw [congrFun (r0 0 (by omega) (by omega)) 7, m7, r6, c0 8 (by omega), c0 9 (by omega), c9 7 (by omega) (by omega) (by omega), c9 10 (by omega) (by omega) (by omega)]
    exact ⟨⟨rfl, Or.inr ⟨p', by omega, rfl⟩⟩, k2, k3, k4⟩
  have ht : pTxt R R := ⟨0, by omega, (congrFun (r0 243 (by omega) (by omega)) 1).trans m3, r15, fun k hk => absurd hk (by omega)⟩
  obtain ⟨l1, l2⟩ := lq_41_of a1 a2 a3 hL e9 q9 r5 (fun q => absurd q (by decide))
  rw [l2]
  exact ⟨l1, s, x, n, hs, hv, he, ht, hli⟩

