theorem pTx_of {M : tvM} (h : pTxt M M) : ∃ (n : Nat) (T : Nat → Nat), pTx n T M M := by
  obtain ⟨n, h1, h2, h3, h4⟩ := h
  obtain ⟨T, hT⟩ := Classical.axiomOfChoice (r := fun k ch => k < n → ch < 65536 ∧ M.1 244 k = nI ch ∧ M.1 255 k = nI ch) fun k => by
    by_cases hk : k < n
    · obtain ⟨ch, hc⟩ := h4 k hk
      exact ⟨ch, fun _ => hc⟩
    · exact ⟨0, fun q => absurd q hk⟩
  exact ⟨n, T, h1, h2, h3, hT⟩
theorem pTx_m {n : Nat} {T : Nat → Nat} {M M1 : tvM} (h : pTx n T M M) (e : pMr M M1) : pTx n T M M1 := ⟨h.1, h.2.1, (congrFun (e 249 (by omega) (by omega)) 15).trans h.2.2.1, fun k hk => ⟨(h.2.2.2 k hk).1, (h.2.2.2 k hk).2.1, (congrFun (e 255 (by omega) (by omega)) k).trans (h.2.2.2 k hk).2.2⟩⟩
theorem e_X9_run_0 {M1 N' : tvM} (z : f_X9_isProgram M1 = (0, N')) {v : Int32} (hv : N'.1 249 16 = v) : e_X9_run M1 = .inr (0, tpi (tpi (tpi N' 249 15 0) 249 5 1) 249 6 v) := by
  have e1 : tgi (tpi (tpi N' 249 15 0) 249 5 1) 249 16 = v := by
    show (tpi (tpi N' 249 15 0) 249 5 1).1 249 16 = v
    rw [tpi_k _ _ _ (by omega), tpi_k _ _ _ (by omega)]
    exact hv
  unfold e_X9_run
  rw [z]
  dsimp only
  rw [if_pos rfl, px_thrn, e1]
theorem e_X9_run_1 {M1 N' : tvM} (z : f_X9_isProgram M1 = (1, N')) : e_X9_run M1 = .inl (1, 0, f_X9_keeps (tpi (tpi N' 249 15 0) 249 5 0)) := by
  unfold e_X9_run
  rw [z]
  dsimp only
  rw [if_neg (by decide), px_thr]
theorem f_X9_run_r {M1 : tvM} {r : Int32 × tvM} (h : pEnd s_X9_run qs_X9_run 5000 (e_X9_run M1) r) : f_X9_run M1 = r := pGet h.1
theorem pEnd_q {σ ρ : Type} {step : σ → σ ⊕ ρ} {qs : σ → Prop} {n : Nat} {e : σ ⊕ ρ} {r : ρ} (h : pEnd step qs n e r) : (∃ r, tvIter step n e = some r) ∧ tvQ step qs n e := ⟨⟨r, h.1⟩, h.2⟩
theorem qe_X9_run_r {M1 : tvM} (q : q_X9_isProgram M1) : qe_X9_run M1 := ⟨q, fun _ => trivial, fun _ => trivial⟩
theorem q_X9_run_r {M1 : tvM} {r : Int32 × tvM} (h : pEnd s_X9_run qs_X9_run 5000 (e_X9_run M1) r) (q : q_X9_isProgram M1) : q_X9_run M1 := And.intro (qe_X9_run_r q) (pEnd_q h)
theorem pRun_e0 {len : Nat} {T : Nat → Nat} {M M' : tvM} {p' : Nat} (hT : pTx len T M M) (hp : f_X5_parse M = (nI p', M')) (hl : p' ≤ 60) {M1 : tvM} (e : pMr M M1) : ∃ R : tvM, f_X9_run M1 = (0, R) ∧ q_X9_run M1 ∧ R.2 = M1.2 ∧ (∀ a, a ≠ 249 → a ≠ 256 → R.1 a = M1.1 a) ∧ (∀ j, j ≠ 5 → j ≠ 6 → ¬ (15 ≤ j ∧ j ≤ 17) → R.1 249 j = M1.1 249 j) ∧ R.1 249 5 = 1 ∧ R.1 249 6 = nI p' ∧ R.1 249 15 = 0 := by
  have hl0 := hT.1
  obtain ⟨qp, M2, N', z⟩ := rd_parse (pTx_m hT e)
  rcases z with ⟨z1, _⟩ | ⟨p2, z1, z2, z3⟩
  · have e1 : (-1 : Int32) = nI p' := congrArg Prod.fst (z1.symm.trans hp)
    exact absurd e1 (pn_m1ne (by omega))
  · obtain ⟨⟨_, y2, y3⟩, _, y5, y6⟩ := z3
    have e1 : nI p' = nI p2 := congrArg Prod.fst (hp.symm.trans z1)
    have eE := e_X9_run_0 z2 y2
    rw [← e1] at eE
    have lp : pEnd s_X9_run qs_X9_run 5000 (e_X9_run M1) (0, tpi (tpi (tpi N' 249 15 0) 249 5 1) 249 6 (nI p')) := by
      rw [eE]
      exact pEnd_r _ _
    refine ⟨_, f_X9_run_r lp, q_X9_run_r lp qp, y6, fun a q1 q2 => funext fun j => ?_, fun j q1 q2 q3 => ?_, ?_, ?_, ?_⟩
    · rw [tpi_o _ _ j q1, tpi_o _ _ j q1, tpi_o _ _ j q1]
      exact y5 a j q2 (by omega)
    · rw [tpi_k _ _ _ q2, tpi_k _ _ _ q1, tpi_k _ _ _ (by omega)]
      exact y5 249 j (by omega) (by omega)
    · rw [tpi_k _ _ _ (by omega)]
      exact tpi_s _ _ _ _
    · exact tpi_s _ _ _ _
    · rw [tpi_k _ _ _ (by omega), tpi_k _ _ _ (by omega)]
      exact tpi_s _ _ _ _

