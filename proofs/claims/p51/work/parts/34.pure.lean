/-! ===== one change at a time ===== -/
theorem pOk.up {B B' : Nat} {c : Nat → Nat → Int32} {l : Int64} {s : Nat → Nat} (h : pOk B c l s) (hB : B ≤ B') (h1 : B' ≤ 10000000) : pOk B' c l s := ⟨⟨h.1.1, h.1.2.1.up hB h1, h.1.2.2⟩, h.2⟩
theorem pLog_all {c : Nat → Nat → Int32} {s : Nat → Nat} (h : pCl c s) (hn : s 11 ≤ 12) (kd n : Nat) : ∃ c' : Nat → Nat → Int32, (∀ p k, p < 16 → c' p k = c p k) ∧ (∀ (M : tvM) (b : Nat) (l : Int64), f_X4_add (puC M b c l) b (nI kd) (nI (s 0)) (nI n) = puC M b c' l) ∧ pCl c' (pLog s kd n) := by
  obtain ⟨st, h1, h2, h3, h4⟩ := h
  exact ⟨_, fun p k hp => pcLog_o c st (s 11) (nI kd) (nI (s 0)) (nI n) hp k, fun M b l => pc_log M b l h2 h3 h1 hn _ _ _, pCl_log h1 h2 h3 hn h4⟩
/-- scalars: what changes lies in 0 .. 5, 8 -/
theorem pOk_sc {B B' : Nat} {c c' : Nat → Nat → Int32} {l : Int64} {s s' : Nat → Nat} (h : pOk B c l s) (hb' : ∀ k, s' k < 2147483648) (hs' : pRs B' s') (h0 : s 0 ≤ s' 0) (hk : ∀ k, k = 6 ∨ k = 7 ∨ 9 ≤ k → s' k = s k) (hc : ∀ p k, 2 ≤ p → c' p k = c p k) (hcs : pCs c' l s') : pOk B' c' l s' := by
  obtain ⟨⟨hb, hs, hh, hx, he, hsum⟩, ⟨hc0, hch, hcx, hcl⟩⟩ := h
  have s9 : s' 9 = s 9 := hk 9 (by omega)
  have s10 : s' 10 = s 10 := hk 10 (by omega)
  have h10 : s 10 ≤ 10 := by unfold pRs at hs; omega
  refine ⟨⟨hb', hs', fun h h1 => pRh_c h0 (by omega) (hk _ (by omega)) (hk _ (by omega)) (hh h h1), fun i hi => pRx_c h0 (by omega) (fun w _ _ => hk _ (by omega)) (hx i hi), fun e h1 => pRe_c (fun k hk' => hk _ (by omega)) (he e h1), ?_⟩, ⟨hcs, fun h h1 => pCh_c (fun p h2 h3 => hc _ _ (by omega)) (fun w hw => hk _ (by omega)) (hch h (by omega)), fun i hi => pCx_c (hx i (by omega)).2.2.2.2.1 (fun p h2 h3 => hc _ _ (by omega)) (fun j hj => hc _ _ (by omega)) (fun w hw => hk _ (by omega)) (hcx i (by omega)), pCl_c (fun p k h1 h2 => hc _ _ (by omega)) (hk _ (by omega)) (fun k h1 => hk _ (by omega)) hcl⟩⟩
  rw [pSu_c (s := s) s10 h10 (fun i hi w hw => hk _ (by omega)) (fun i hi => (hx i hi).2.2.2.2.1), hk 6 (by omega), hk 7 (by omega)]
  exact hsum
/-- one number of one holder -/
theorem pOk_ho {B : Nat} {c : Nat → Nat → Int32} {l : Int64} {s : Nat → Nat} {h w v : Nat} (hR : pOk B c l s) (hw : w < 3) (hh9 : h < s 9) (hv : v < 2147483648) (hr : pRh (pun s (12 + 3 * h + w) v) h) : pOk B (tvU c (3 + w) h (nI v)) l (pun s (12 + 3 * h + w) v) := by
  obtain ⟨⟨hb, hs, hh, hx, he, hsum⟩, ⟨hc, hch, hcx, hcl⟩⟩ := hR
  have hs' := hs
  obtain ⟨s0, s1, s2, s3, s45, s67, s8, s9, s10, s11, sB⟩ := hs
  refine ⟨⟨pun_b hb _ _ hv, ?_, ?_, ?_, ?_, ?_⟩, ⟨?_, ?_, ?_, ?_⟩⟩
  · unfold pRs at hs' ⊢
    simp (disch := omega) only [pun_n]
    exact hs'
  · intro h1 h2
    by_cases e : h1 = h
    · subst e; exact hr
    · exact pRh_c (by simp (disch := omega) only [pun_n]; omega) (by simp (disch := omega) only [pun_n]; omega) (by simp (disch := omega) only [pun_n]) (by simp (disch := omega) only [pun_n]) (hh h1 h2)
  · exact fun i hi => pRx_c (by simp (disch := omega) only [pun_n]; omega) (by simp (disch := omega) only [pun_n]; omega) (fun w _ _ => by simp (disch := omega) only [pun_n]) (hx i hi)
  · exact fun e h1 => pRe_c (fun k hk => by simp (disch := omega) only [pun_n]) (he e h1)
  · rw [pSu_c (s := s) (by simp (disch := omega) only [pun_n]) s10 (fun i hi w hw => by simp (disch := omega) only [pun_n]) (fun i hi => (hx i hi).2.2.2.2.1)]
    simp (disch := omega) only [pun_n]
    exact hsum
  · unfold pCs at hc ⊢
    simp (disch := omega) only [pun_n, pcu_r]
    exact hc
  · intro h1 h2
    rw [pun_n _ _ (by omega)] at h2
    by_cases e : h1 = h
    · subst e
      have := hch h1 h2
      unfold pCh at this ⊢
      rcases (show w = 0 ∨ w = 1 ∨ w = 2 by omega) with rfl | rfl | rfl <;> simp (disch := omega) only [pun_n, pun_s, pcu_r, pcu_s, this, and_self]
    · exact pCh_c (fun p h3 h4 => by
        by_cases ep : p = 3 + w
        · subst ep; simp (disch := omega) only [pcu_k]
        · simp (disch := omega) only [pcu_r]) (fun w hw => by simp (disch := omega) only [pun_n]) (hch h1 h2)
  · intro i hi
    rw [pun_n _ _ (by omega)] at hi
    exact pCx_c (hx i (by omega)).2.2.2.2.1 (fun p h1 h2 => by simp (disch := omega) only [pcu_r]) (fun j hj => by simp (disch := omega) only [pcu_r]) (fun w hw => by simp (disch := omega) only [pun_n]) (hcx i hi)
  · exact pCl_c (fun p k h1 h2 => by simp (disch := omega) only [pcu_r]) (by simp (disch := omega) only [pun_n]) (fun k hk => by simp (disch := omega) only [pun_n]) hcl
/-- one box's status and times -/
theorem pOk_bx {B : Nat} {c c' : Nat → Nat → Int32} {l : Int64} {s s' : Nat → Nat} {i : Nat} (hR : pOk B c l s) (hi : i < s 10) (hb' : ∀ k, s' k < 2147483648) (hk : ∀ k, (∀ w, 3 ≤ w → w < 7 → k ≠ 36 + 13 * i + w) → s' k = s k) (hc' : ∀ p k, (p < 10 ∨ 13 < p ∨ k ≠ i) → c' p k = c p k) (hr : pRx s' i) (hx' : pCx c' s' i) : pOk B c' l s' := by
  obtain ⟨⟨hb, hs, hh, hx, he, hsum⟩, ⟨hc, hch, hcx, hcl⟩⟩ := hR
  have hs' := hs
  obtain ⟨s0, s1, s2, s3, s45, s67, s8, s9, s10, s11, sB⟩ := hs
  have k0 : ∀ k, k < 36 → s' k = s k := fun k h => hk k (by omega)
  have k1 : ∀ k, 166 ≤ k → s' k = s k := fun k h => hk k (by omega)
  have k2 : ∀ j w, j ≠ i → w < 13 → s' (36 + 13 * j + w) = s (36 + 13 * j + w) := fun j w h h1 => hk _ (by omega)
  refine ⟨⟨hb', ?_, ?_, ?_, ?_, ?_⟩, ⟨?_, ?_, ?_, ?_⟩⟩
  · unfold pRs at hs' ⊢
    simp (disch := omega) only [k0]
    exact hs'
  · exact fun h h1 => pRh_c (by rw [k0 0 (by omega)]; omega) (by rw [k0 9 (by omega)]; omega) (k0 _ (by omega)) (k0 _ (by omega)) (hh h h1)
  · intro j hj
    by_cases e : j = i
    · subst e; exact hr
    · exact pRx_c (by rw [k0 0 (by omega)]; omega) (by rw [k0 10 (by omega)]; omega) (fun w _ h => k2 j w e h) (hx j hj)
  · exact fun e h1 => pRe_c k1 (he e h1)
  · rw [k0 6 (by omega), k0 7 (by omega), hsum]
    congr 1
    unfold pSu
    rw [k0 10 (by omega)]
    refine (psm_c fun j hj => pWo_c (hk _ (by omega)) fun w hw => hk _ ?_).symm
    have := (hx j (by omega)).2.2.2.2.1
    omega
  · unfold pCs at hc ⊢
    simp (disch := omega) only [k0, hc']
    exact hc
  · intro h1 h2
    rw [k0 9 (by omega)] at h2
    exact pCh_c (fun p h3 h4 => hc' _ _ (by omega)) (fun w hw => k0 _ (by omega)) (hch h1 h2)
  · intro j hj
    rw [k0 10 (by omega)] at hj
    by_cases e : j = i
    · subst e; exact hx'
    · exact pCx_c (hx j (by omega)).2.2.2.2.1 (fun p h1 h2 => hc' _ _ (by omega)) (fun w hw => hc' _ _ (by omega)) (fun w hw => k2 j w e hw) (hcx j hj)
  · exact pCl_c (fun p k h1 h2 => hc' _ _ (by omega)) (k0 _ (by omega)) k1 hcl
/-- one box's pearls, and the ledger -/
theorem pOk_pr {B B' : Nat} {c c' : Nat → Nat → Int32} {l l' : Int64} {s s' : Nat → Nat} {i : Nat} (hR : pOk B c l s) (hi : i < s 10) (hb' : ∀ k, s' k < 2147483648) (hs2 : pRs B' s') (hk : ∀ k, k ≠ 6 → k ≠ 7 → (∀ w, 7 ≤ w → w < 13 → k ≠ 36 + 13 * i + w) → s' k = s k) (hc' : ∀ p k, p ≠ 15 → (p ≠ 14 ∨ k ≠ i) → c' p k = c p k) (hc5 : ∀ k, (∀ j, j < 5 → k ≠ i * 5 + j) → c' 15 k = c 15 k) (hr : pRx s' i) (hx' : pCx c' s' i) (hl : l' = lN (s' 6 - s' 7)) (hsum' : s' 6 + s 7 + pWo s i = s' 7 + s 6 + pWo s' i) : pOk B' c' l' s' := by
  obtain ⟨⟨hb, hs, hh, hx, he, hsum⟩, ⟨hc, hch, hcx, hcl⟩⟩ := hR
  have hs' := hs
  obtain ⟨s0, s1, s2, s3, s45, s67, s8, s9, s10, s11, sB⟩ := hs
  have k0 : ∀ k, k < 36 → k ≠ 6 → k ≠ 7 → s' k = s k := fun k h h6 h7 => hk k h6 h7 (by omega)
  have k1 : ∀ k, 166 ≤ k → s' k = s k := fun k h => hk k (by omega) (by omega) (by omega)
  have k2 : ∀ j w, j ≠ i → w < 13 → s' (36 + 13 * j + w) = s (36 + 13 * j + w) := fun j w h h1 => hk _ (by omega) (by omega) (by omega)
  refine ⟨⟨hb', hs2, ?_, ?_, ?_, ?_⟩, ⟨?_, ?_, ?_, ?_⟩⟩
  · exact fun h h1 => pRh_c (by rw [k0 0 (by omega) (by omega) (by omega)]; omega) (by rw [k0 9 (by omega) (by omega) (by omega)]; omega) (k0 _ (by omega) (by omega) (by omega)) (k0 _ (by omega) (by omega) (by omega)) (hh h h1)
  · intro j hj
    by_cases e : j = i
    · subst e; exact hr
    · exact pRx_c (by rw [k0 0 (by omega) (by omega) (by omega)]; omega) (by rw [k0 10 (by omega) (by omega) (by omega)]; omega) (fun w _ h => k2 j w e h) (hx j hj)
  · exact fun e h1 => pRe_c k1 (he e h1)
  · have key : ∀ n, n ≤ 10 → (psm (pWo s') n + (if i < n then pWo s i else 0) = psm (pWo s) n + (if i < n then pWo s' i else 0)) := by
      intro n
      induction n with
      | zero => intro _; simp [psm]
      | succ n ih =>
        intro hn
        have h1 := ih (by omega)
        show psm (pWo s') n + pWo s' n + _ = psm (pWo s) n + pWo s n + _
        by_cases e : n = i
        · subst e
          rw [if_neg (by omega), if_neg (by omega)] at h1
          rw [if_pos (by omega), if_pos (by omega)]
          omega
        · have h2 : pWo s' n = pWo s n := by
            have := (hx n (by omega)).2.2.2.2.1
            exact pWo_c (k2 n 7 e (by omega)) fun w hw => k2 n (8 + w) e (by omega)
          rw [h2]
          by_cases e2 : i < n
          · rw [if_pos (by omega), if_pos (by omega)] at h1 ⊢
            omega
          · rw [if_neg (by omega), if_neg (by omega)] at h1 ⊢
            omega
    have h3 := key (s 10) s10
    rw [if_pos hi, if_pos hi] at h3
    unfold pSu at hsum ⊢
    rw [k0 10 (by omega) (by omega) (by omega)]
    omega
  · unfold pCs at hc ⊢
    simp (disch := omega) only [k0, hc']
    exact ⟨hc.1, hc.2.1, hc.2.2.1, hc.2.2.2.1, hl, hc.2.2.2.2.2⟩
  · intro h1 h2
    rw [k0 9 (by omega) (by omega) (by omega)] at h2
    exact pCh_c (fun p h3 h4 => hc' _ _ (by omega) (by omega)) (fun w hw => k0 _ (by omega) (by omega) (by omega)) (hch h1 h2)
  · intro j hj
    rw [k0 10 (by omega) (by omega) (by omega)] at hj
    by_cases e : j = i
    · subst e; exact hx'
    · exact pCx_c (hx j (by omega)).2.2.2.2.1 (fun p h1 h2 => hc' _ _ (by omega) (by omega)) (fun w hw => hc5 _ (by omega)) (fun w hw => k2 j w e hw) (hcx j hj)
  · exact pCl_c (fun p k h1 h2 => hc' _ _ (by omega) (by omega)) (k0 _ (by omega) (by omega) (by omega)) k1 hcl
theorem pRe_log {s : Nat → Nat} {kd n : Nat} (hn : s 11 ≤ 12) (hk : kd < 65536) (h : n < 10) (he : ∀ e, e < 12 → pRe s e) : ∀ e, e < 12 → pRe (pLog s kd n) e := by
  intro e h1
  unfold pRe
  by_cases q : s 11 = 12
  · by_cases h2 : e = 11
    · subst h2
      obtain ⟨g1, g2, g3⟩ := pLog_a1 s kd n q
      exact ⟨by rw [g1]; exact hk, by rw [g3]; exact h⟩
    · rw [pLog_a s kd n q (by omega) (by omega), pLog_a s kd n q (by omega) (by omega)]
      exact he (e + 1) (by omega)
  · by_cases h2 : e = s 11
    · subst h2
      obtain ⟨g1, g2, g3⟩ := pLog_b1 s kd n q
      exact ⟨by rw [g1]; exact hk, by rw [g3]; exact h⟩
    · rw [pLog_b0 s kd n q (by omega) (by omega) (by omega) (by omega), pLog_b0 s kd n q (by omega) (by omega) (by omega) (by omega)]
      exact he e h1
/-- an event -/
theorem pOk_log {B : Nat} {c : Nat → Nat → Int32} {l : Int64} {s : Nat → Nat} (hR : pOk B c l s) {kd n : Nat} (hkd : kd < 65536) (hn : n < 10) : ∃ c' : Nat → Nat → Int32, (∀ p k, p < 16 → c' p k = c p k) ∧ (∀ (M : tvM) (b : Nat) (l : Int64), f_X4_add (puC M b c l) b (nI kd) (nI (s 0)) (nI n) = puC M b c' l) ∧ pOk B c' l (pLog s kd n) := by
  obtain ⟨⟨hb, hs, hh, hx, he, hsum⟩, ⟨hc, hch, hcx, hcl⟩⟩ := hR
  have hs' := hs
  obtain ⟨s0, s1, s2, s3, s45, s67, s8, s9, s10, s11, sB⟩ := hs
  obtain ⟨c', g1, g2, g3⟩ := pLog_all hcl s11 kd n
  refine ⟨c', g1, g2, ⟨⟨pLog_b s hb s11 (by omega) (by omega), ?_, ?_, ?_, pRe_log s11 hkd hn he, ?_⟩, ⟨?_, ?_, ?_, g3⟩⟩⟩
  · unfold pRs at hs' ⊢
    simp (disch := omega) only [pLog_o, pLog_11]
    split <;> omega
  · exact fun h h1 => pRh_c (by simp (disch := omega) only [pLog_o]; omega) (by simp (disch := omega) only [pLog_o]; omega) (by simp (disch := omega) only [pLog_o]) (by simp (disch := omega) only [pLog_o]) (hh h h1)
  · exact fun i hi => pRx_c (by simp (disch := omega) only [pLog_o]; omega) (by simp (disch := omega) only [pLog_o]; omega) (fun w _ _ => by simp (disch := omega) only [pLog_o]) (hx i hi)
  · rw [pSu_c (s := s) (by simp (disch := omega) only [pLog_o]) s10 (fun i hi w hw => by simp (disch := omega) only [pLog_o]) (fun i hi => (hx i hi).2.2.2.2.1)]
    simp (disch := omega) only [pLog_o]
    exact hsum
  · unfold pCs at hc ⊢
    simp (disch := omega) only [pLog_o, g1]
    exact hc
  · intro h h1
    simp (disch := omega) only [pLog_o] at h1
    exact pCh_c (fun p h3 h4 => g1 _ _ (by omega)) (fun w hw => by simp (disch := omega) only [pLog_o]) (hch h h1)
  · intro i hi
    simp (disch := omega) only [pLog_o] at hi
    exact pCx_c (hx i (by omega)).2.2.2.2.1 (fun p h3 h4 => g1 _ _ (by omega)) (fun j hj => g1 _ _ (by omega)) (fun w hw => by simp (disch := omega) only [pLog_o]) (hcx i hi)

