theorem s_prog0 (N : tvM) : s_X9_isProgram (0, N) = .inr (0, N) := by
  unfold s_X9_isProgram sb_X9_isProgram
  simp only [if_true]
theorem tvPs_0 (r : Nat) (M : tvM) : tvPs r 0 M = (tgi M 243 2, M) := by
  cases r with
  | zero =>
    show (if (0 : Int32) = 0 then tgi M 243 2 else -1, M) = _
    rw [if_pos rfl]
  | succ r =>
    show (if (0 : Int32) = 0 then (tgi M 243 2, M) else _) = _
    rw [if_pos rfl]
section
variable {n : Nat} {T : Nat → Nat} {M0 N0 : tvM}
/-- a command, or none, wherever one is read -/
theorem rd_cmd' (hT : pTx n T M0 N0) {M N : tvM} {p m : Nat} (h : pRd n M0 N0 M N p m m 9 0) (hm : 2 * m ≤ p) : pCr2 n M0 N0 M N p m := by
  have hn := hT.1
  have hp := h.1.2.2.1
  by_cases q : m + 1 ≤ 30
  · exact rd_cmd hT h q
  · obtain ⟨a1, a2, a3⟩ := rd_none hT h (fun e => by have := e.1; omega)
    exact ⟨a1, 0, M, N, p, a2, a3, Or.inl ⟨rfl, h.rf⟩⟩
theorem rd_loop (hT : pTx n T M0 N0) : ∀ r (M N : tvM) p m, pRd n M0 N0 M N p m m 9 0 → 2 * m ≤ p + 1 → r + m = 61 → ∃ M' N' : tvM, (tvPs r 1 M = (-1, M') ∧ pEnd s_X9_isProgram qs_X9_isProgram (r + 2) (.inl (1, N)) (1, N') ∧ ∃ m', pRd n M0 N0 M' N' n m' m' 9 0) ∨ (∃ p', tvPs r 1 M = (nI p', M') ∧ pEnd s_X9_isProgram qs_X9_isProgram (r + 2) (.inl (1, N)) (0, N') ∧ pRf n M0 N0 M' N' p') := by
  intro r
  induction r with
  | zero =>
    intro M N p m h h2 e
    have := h.1.2.2.2.2.2
    omega
  | succ r ih =>
    intro M N p m h h2 e
    have hn := hT.1
    have hp := h.1.2.2.1
    obtain ⟨e1, e2, e3, e4⟩ := rd_len hT h
    obtain ⟨qs, s1, s0⟩ := rd_sign hT h (c := 59) (by omega) (by omega)
    rw [show nI 59 = (59 : Int32) from rfl] at qs s1 s0
    have ePs : tvPs (r + 1) 1 M = if nI n ≤ nI p then (-1, M) else if (f_X5_readSign M 59).1 = 0 then tvPs r 0 (f_X5_readSign M 59).2 else tvPs r (if (f_X5_readCommand (f_X5_readSign M 59).2).1 = 0 then 0 else 1) (f_X5_readCommand (f_X5_readSign M 59).2).2 := by
      show (if (1 : Int32) = 0 then _ else if tgi M 243 1 ≤ tgi M 243 2 then _ else _) = _
      rw [if_neg p10, e1, e2]
    have eS : s_X9_isProgram (1, N) = if (f_X9_isSign N 59).1 = 0 then (if (tgi ((f_X9_isSign N 59).2) 249 16) = (tgi ((f_X9_isSign N 59).2) 249 15) then .inr (1, (f_X9_isSign N 59).2) else .inr (0, (f_X9_isSign N 59).2)) else .inl ((f_X9_readsCommand ((f_X9_isSign N 59).2)).1, (f_X9_readsCommand ((f_X9_isSign N 59).2)).2) := by
      unfold s_X9_isProgram sb_X9_isProgram
      simp only []
      rw [if_neg p10]
    by_cases q : p < n ∧ T p = 59
    · obtain ⟨t1, t2⟩ := s1 q
      have h' := pRd_pos h (p' := p + 1) (by omega)
      obtain ⟨qc, b, M', N', p', c1, c2, c3⟩ := rd_cmd' hT h' (by omega)
      rw [t1] at ePs
      rw [t2] at eS
      dsimp only at ePs eS
      rw [if_neg (by rw [pn_le (by omega) (by omega)]; omega), if_neg p10, c1] at ePs
      rw [if_neg p10, c2] at eS
      dsimp only at ePs eS
      have hq : qs_X9_isProgram (1, N) := by
        unfold qs_X9_isProgram qb_X9_isProgram
        simp only []
        rw [t2]
        exact ⟨fun _ => trivial, fun _ => ⟨qs, fun z => absurd z p10, fun _ => ⟨qc, trivial⟩⟩⟩
      rcases c3 with ⟨rfl, c4⟩ | ⟨rfl, c4, c5⟩
      · rw [if_pos rfl, tvPs_0, show tgi M' 243 2 = nI p' from c4.1.1] at ePs
        refine ⟨M', N', Or.inr ⟨p', ePs, pEnd_1 eS hq (pEnd_1 (y := .inr (0, N')) ?_ ?_ (pEnd_r _ _)), c4⟩⟩
        · exact s_prog0 _
        · exact ⟨fun _ => trivial, fun z => absurd rfl z⟩
      · rw [if_neg p10] at ePs
        obtain ⟨M2, N2, z⟩ := ih M' N' p' (m + 1) c4 (by omega) (by omega)
        refine ⟨M2, N2, ?_⟩
        rcases z with ⟨z1, z2, z3⟩ | ⟨p2, z1, z2, z3⟩
        · exact Or.inl ⟨ePs.trans z1, pEnd_1 eS hq z2, z3⟩
        · exact Or.inr ⟨p2, ePs.trans z1, pEnd_1 eS hq z2, z3⟩
    · obtain ⟨t1, t2⟩ := s0 q
      rw [t1] at ePs
      rw [t2] at eS
      dsimp only at ePs eS
      rw [if_pos rfl, e3, e4] at eS
      rw [if_pos (show (0 : Int32) = 0 from rfl), tvPs_0, e2] at ePs
      have hq : qs_X9_isProgram (1, N) := by
        unfold qs_X9_isProgram qb_X9_isProgram
        simp only []
        rw [t2]
        exact ⟨fun _ => trivial, fun _ => ⟨qs, fun _ => ⟨fun _ => trivial, fun _ => trivial⟩, fun z => absurd rfl z⟩⟩
      by_cases q2 : p = n
      · rw [q2, if_pos rfl] at eS
        rw [q2, if_pos (by rw [pn_le (by omega) (by omega)]; omega)] at ePs
        rw [q2] at h
        exact ⟨M, N, Or.inl ⟨ePs, pEnd_1 eS hq (pEnd_r _ _), m, h⟩⟩
      · rw [if_neg (by rw [pn_eq (by omega) (by omega)]; exact q2)] at eS
        rw [if_neg (by rw [pn_le (by omega) (by omega)]; omega)] at ePs
        exact ⟨M, N, Or.inr ⟨p, ePs, pEnd_1 eS hq (pEnd_r _ _), h.rf⟩⟩
end
theorem rd_parse {n : Nat} {T : Nat → Nat} {M N : tvM} (hT : pTx n T M N) : q_X9_isProgram N ∧ ∃ M' N' : tvM, (f_X5_parse M = (-1, M') ∧ f_X9_isProgram N = (1, N') ∧ ∃ m', pRd n M N M' N' n m' m' 9 0) ∨ (∃ p', f_X5_parse M = (nI p', M') ∧ f_X9_isProgram N = (0, N') ∧ pRf n M N M' N' p') := by
  obtain ⟨Ma, hMa⟩ : ∃ z, z = tpi (tpi M 243 2 0) 243 3 0 := ⟨_, rfl⟩
  obtain ⟨Na, hNa⟩ : ∃ z, z = tpi (tpi N 249 16 0) 249 17 0 := ⟨_, rfl⟩
  have oM : ∀ a j, ¬ (a = 243 ∧ 2 ≤ j ∧ j ≤ 3) → Ma.1 a j = M.1 a j := fun a j q => by
    rw [hMa]
    by_cases q1 : a = 243
    · subst q1
      exact (tpi_k _ _ _ (by omega)).trans (tpi_k _ _ _ (by omega))
    · exact (tpi_o _ _ j q1).trans (tpi_o _ _ j q1)
  have oN : ∀ a j, ¬ (a = 249 ∧ 16 ≤ j ∧ j ≤ 17) → Na.1 a j = N.1 a j := fun a j q => by
    rw [hNa]
    by_cases q1 : a = 249
    · subst q1
      exact (tpi_k _ _ _ (by omega)).trans (tpi_k _ _ _ (by omega))
    · exact (tpi_o _ _ j q1).trans (tpi_o _ _ j q1)
  have h0 : pRd n M N Ma Na 0 0 0 9 0 := by
    refine ⟨⟨?_, ?_, by omega, ?_, ?_, by omega⟩, ⟨fun a j _ _ q => oM a j q, by rw [hMa]; rfl⟩, ⟨fun a j _ q => oN a j q, by rw [hNa]; rfl⟩, fun i hi => absurd hi (by omega), fun q => absurd q (by omega), fun j hj => absurd hj (by omega)⟩
    · rw [hMa]
      exact (tpi_k _ _ _ (by omega)).trans (tpi_s _ _ _ _)
    · rw [hNa]
      exact (tpi_k _ _ _ (by omega)).trans (tpi_s _ _ _ _)
    · rw [hMa]
      exact tpi_s _ _ _ _
    · rw [hNa]
      exact tpi_s _ _ _ _
  obtain ⟨qc, b, M', N', p', c1, c2, c3⟩ := rd_cmd' hT h0 (by omega)
  have eP : f_X5_parse M = tvPs 60 b M' := by
    unfold f_X5_parse
    rw [← hMa, c1]
  have eE : e_X9_isProgram N = .inl (b, N') := by
    unfold e_X9_isProgram
    rw [← hNa, c2]
  have qe : qe_X9_isProgram N := by
    unfold qe_X9_isProgram
    rw [← hNa]
    exact ⟨qc, trivial⟩
  have fin : ∀ {F : Nat} {r : Int32 × tvM}, F ≤ 5000 → pEnd s_X9_isProgram qs_X9_isProgram F (.inl (b, N')) r → q_X9_isProgram N ∧ f_X9_isProgram N = r := fun hF hr => by
    rw [← eE] at hr
    have l1 := pEnd_to (F' := 5000) hr hF
    exact ⟨⟨qe, ⟨_, l1.1⟩, l1.2⟩, pGet l1.1⟩
  rcases c3 with ⟨rfl, c4⟩ | ⟨rfl, c4, c5⟩
  · rw [tvPs_0, show tgi M' 243 2 = nI p' from c4.1.1] at eP
    obtain ⟨f1, f2⟩ := fin (F := 1) (r := (0, N')) (by omega) (pEnd_1 (y := .inr (0, N')) (s_prog0 _) ⟨fun _ => trivial, fun z => absurd rfl z⟩ (pEnd_r _ _))
    exact ⟨f1, M', N', Or.inr ⟨p', eP, f2, c4⟩⟩
  · obtain ⟨M2, N2, z⟩ := rd_loop hT 60 M' N' p' (0 + 1) c4 (by omega) (by omega)
    rcases z with ⟨z1, z2, z3⟩ | ⟨p2, z1, z2, z3⟩
    · obtain ⟨f1, f2⟩ := fin (by omega) z2
      exact ⟨f1, M2, N2, Or.inl ⟨eP.trans z1, f2, z3⟩⟩
    · obtain ⟨f1, f2⟩ := fin (by omega) z2
      exact ⟨f1, M2, N2, Or.inr ⟨p2, eP.trans z1, f2, z3⟩⟩

