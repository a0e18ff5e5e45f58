/-! ===== a minute ===== -/
theorem pXi_dn {z : Nat × Nat} {s : Nat → Nat} (hX : pXi z s) : ∀ i, i ≤ 10 → pXi z (pDn s i) := by
  intro i
  induction i with
  | zero => intro _; exact hX
  | succ i ih =>
    intro hi
    rw [pDn]
    split
    · exact pXi_bw (w := 6) _ (by omega) (by omega) (by omega) (ih (by omega))
    · exact ih (by omega)
theorem pOpR_11 {s : Nat → Nat} {i : Nat} (hi : i < 10) (h11 : s 11 ≤ 12) : pOpR s i 11 ≤ 12 := pLog_le _ _ _ (by simp (disch := omega) only [pun_n]; omega)
theorem pShR_11 {s : Nat → Nat} {i : Nat} (hi : i < 10) (h11 : s 11 ≤ 12) : pShR s i 11 ≤ 12 := by
  unfold pShR
  split
  · simp (disch := omega) only [pun_n]
    exact pLog_le _ _ _ h11
  · simp (disch := omega) only [pun_n]
    exact h11
theorem pXi_os {z : Nat × Nat} {s : Nat → Nat} (hX : pXi z s) (h11 : s 11 ≤ 12) : ∀ i, i ≤ 10 → pXi z (pOs s i) ∧ pOs s i 11 ≤ 12 := by
  intro i
  induction i with
  | zero => intro _; exact ⟨hX, h11⟩
  | succ i ih =>
    intro hi
    obtain ⟨a, b⟩ := ih (by omega)
    rw [pOs]
    split
    · exact ⟨pXi_opR (by omega) b a, pOpR_11 (by omega) b⟩
    · exact ⟨a, b⟩
theorem pXi_ss {z : Nat × Nat} {s : Nat → Nat} (hX : pXi z s) (h11 : s 11 ≤ 12) : ∀ i, i ≤ 10 → pXi z (pSs s i) ∧ pSs s i 11 ≤ 12 := by
  intro i
  induction i with
  | zero => intro _; exact ⟨hX, h11⟩
  | succ i ih =>
    intro hi
    obtain ⟨a, b⟩ := ih (by omega)
    rw [pSs]
    split
    · exact ⟨pXi_shR (by omega) b a, pShR_11 (by omega) b⟩
    · exact ⟨a, b⟩
theorem pDn_l (s : Nat → Nat) (i : Nat) {k : Nat} (h : k < 36) : pDn s i k = s k := pDn_o s i (fun j _ => by omega)
theorem pXi_mc {z : Nat × Nat} {s : Nat → Nat} (hX : pXi z s) (h10 : s 10 ≤ 10) (h11 : s 11 ≤ 12) : pXi z (pMC s) ∧ pMC s 11 ≤ 12 := by
  have a : pXi z (pMA s) ∧ pMA s 11 = s 11 ∧ pMA s 0 = s 0 := by
    unfold pMA
    split
    · exact ⟨pXi_dn hX _ h10, pDn_l _ _ (by omega), pDn_l _ _ (by omega)⟩
    · exact ⟨hX, rfl, rfl⟩
  have b : pXi z (pMB s) ∧ pMB s 11 = s 11 := by
    unfold pMB
    exact ⟨pXi_tm (by rw [a.2.2]; omega) a.1, by rw [pun_n _ _ (by omega)]; exact a.2.1⟩
  unfold pMC
  split
  · exact ⟨pXi_lo _ (by omega) (by omega) b.1, by rw [pun_n _ _ (by omega), b.2]; exact h11⟩
  · exact ⟨b.1, by rw [b.2]; exact h11⟩
theorem pXi_min {z : Nat × Nat} {s : Nat → Nat} (hX : pXi z s) (h10 : s 10 ≤ 10) (h11 : s 11 ≤ 12) : pXi z (pMin s) ∧ pMin s 11 ≤ 12 := by
  obtain ⟨a, b⟩ := pXi_mc hX h10 h11
  have c : pXi z (pMD s) ∧ pMD s 11 ≤ 12 := by
    unfold pMD
    split
    · exact pXi_os a b _ h10
    · exact ⟨a, b⟩
  unfold pMin
  exact pXi_ss c.1 c.2 _ h10
/-- a minute leaves the numbers of holders and boxes -/
theorem pSs_10 (s : Nat → Nat) : ∀ i, pSs s i 10 = s 10 := by
  intro i
  induction i with
  | zero => rfl
  | succ i ih =>
    rw [pSs]
    split
    · unfold pShR
      split
      · simp (disch := omega) only [pun_n, pLog_o]
        exact ih
      · simp (disch := omega) only [pun_n]
        exact ih
    · exact ih
theorem pOs_10 (s : Nat → Nat) : ∀ i, pOs s i 10 = s 10 := by
  intro i
  induction i with
  | zero => rfl
  | succ i ih =>
    rw [pOs]
    split
    · unfold pOpR
      simp (disch := omega) only [pun_n, pLog_o]
      exact ih
    · exact ih
theorem pMin_10 (s : Nat → Nat) : pMin s 10 = s 10 := by
  have a : pMA s 10 = s 10 := by
    unfold pMA
    split
    · exact pDn_l _ _ (by omega)
    · rfl
  have b : pMB s 10 = s 10 := by
    unfold pMB
    rw [pun_n _ _ (by omega)]
    exact a
  have c : pMC s 10 = s 10 := by
    unfold pMC
    split
    · rw [pun_n _ _ (by omega)]
      exact b
    · exact b
  have d : pMD s 10 = s 10 := by
    unfold pMD
    split
    · rw [pOs_10]
      exact c
    · exact c
  unfold pMin
  rw [pSs_10, d]

