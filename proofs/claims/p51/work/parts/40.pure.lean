/-! ===== putting a pearl in ===== -/
theorem pLog_pun (s : Nat → Nat) {k : Nat} (v kd n : Nat) (h : k < 166) (h2 : k ≠ 11) (h3 : k ≠ 0) : pLog (pun s k v) kd n = pun (pLog s kd n) k v := by
  funext j
  by_cases e : j = k
  · subst e
    rw [pun_s, pLog_o _ _ _ h h2, pun_s]
  · rw [pun_n _ _ e]
    unfold pLog
    rw [pun_n s v (show 11 ≠ k by omega), pun_n s v (show 0 ≠ k by omega), pun_n s v e]
    by_cases e2 : 166 ≤ j ∧ j < 199
    · rw [pun_n s v (show j + 3 ≠ k by omega)]
    · simp only [if_neg e2]
theorem pSim_deposits {B : Nat} {c : Nat → Nat → Int32} {l : Int64} {s : Nat → Nat} (b : Nat) (hR : pOk B c l s) (hB : B + 240 ≤ 10000000) (x1 x2 : Int32) : pSim B c l s b (fun m => f_X6_refusalOfPut m b x1 x2) (fun m => f_X6_put m b x1 x2) (fun m => m) (fun m => f_X9_deposits m x1 x2) (fun m => q_X9_deposits m x1 x2) [(1, 1), (2, 2), (3, 3)] True 0 := by
  intro M M1 M' t
  obtain ⟨⟨hb, hs, hh, hx, he, hsum⟩, ⟨hc, hch, hcx, hcl⟩⟩ := id hR
  have hs' := hs
  obtain ⟨s0, s1, s2, s3, s45, s67, s8, s9, s10, s11, sB⟩ := hs
  have hc' := hc
  obtain ⟨c04, c05, c06, c07, cl, c10, c11, c20, c60⟩ := hc
  by_cases h1 : ∃ i, i < s 10 ∧ x1 = nI i
  case neg =>
    have g1 : ∀ t, f_X9_isBox (puN M' s t) x1 = nI 0 := fun t => px_box0 M' s t x1 s10 h1
    refine Or.inr (Or.inl ⟨(1, 1), by simp, ?_, ?_⟩)
    · simp only [f_X6_refusalOfPut, pc_has0 M b l c60 s10 h1, ↓reduceIte]
    · unfold q_X9_deposits f_X9_deposits
      simp (disch := first | omega | exact hb _) only [pl_0, pl_1, pl_2, pl_3, pl_4, pl_5, pl_6, pl_7, pl_8, pl_9, pl_10, pl_11, pl_12, pl_13, pl_25, pl_30, pl_36, pl_50, pl_60, pl_98, pl_99, pl_100, pl_102, pl_104, pl_105, pl_108, pl_111, pl_112, pl_116, pl_119, pl_166, pl_199, pl_202, pl_239, pl_240, pl_480, pl_999, pl_1000, puN_g, puN_p, puN_pt, px_thr0, px_thr1, px_qthr0, px_qthr1, nI_add, pn_mul, pn_c, pn_le, pn_lt, pn_eq, px_of, px_sets, px_ofh, px_seth, px_qof, px_qsets, px_qofh, px_qseth, pun_s, pun_n, ↓reduceIte, g1]
      simp
  obtain ⟨i, hi, rfl⟩ := h1
  have g1 : ∀ t, f_X9_isBox (puN M' s t) (nI i) = nI 1 := fun t => px_box1 M' s t s10 hi
  have k1 := pc_has1 M b l c60 s10 hi
  have h6 := hR.six hi
  have hp5 := hx i (by omega)
  by_cases h2 : x2 < 1 ∨ 99 < x2
  · have g2 : ∀ m, f_X9_isIn m x2 (nI 1) (nI 99) = nI 0 := fun m => px_inB m h2
    refine Or.inr (Or.inl ⟨(2, 2), by simp, ?_, ?_⟩)
    · show f_X6_refusalOfPut _ _ _ _ = 2
      unfold f_X6_refusalOfPut
      rw [k1, if_neg (by decide)]
      by_cases q : x2 < 1
      · rw [if_pos q]
      · rw [if_neg q, if_neg]
        intro r
        have := h2.resolve_left q
        rw [Int32.le_iff_toInt_le] at r
        rw [Int32.lt_iff_toInt_lt] at this
        omega
    · unfold q_X9_deposits f_X9_deposits
      simp (disch := first | omega | exact hb _) only [pl_0, pl_1, pl_2, pl_3, pl_4, pl_5, pl_6, pl_7, pl_8, pl_9, pl_10, pl_11, pl_12, pl_13, pl_25, pl_30, pl_36, pl_50, pl_60, pl_98, pl_99, pl_100, pl_102, pl_104, pl_105, pl_108, pl_111, pl_112, pl_116, pl_119, pl_166, pl_199, pl_202, pl_239, pl_240, pl_480, pl_999, pl_1000, puN_g, puN_p, puN_pt, px_thr0, px_thr1, px_qthr0, px_qthr1, nI_add, pn_mul, pn_c, pn_le, pn_lt, pn_eq, px_of, px_sets, px_ofh, px_seth, px_qof, px_qsets, px_qofh, px_qseth, pun_s, pun_n, ↓reduceIte, g1, g2]
      simp
  obtain ⟨v, hv1, hv99, rfl⟩ : ∃ v : Nat, 1 ≤ v ∧ v ≤ 99 ∧ x2 = nI v := by
    obtain ⟨v, hv, rfl⟩ := pn_nneg (x := x2) (fun q => h2 (Or.inl (by
      rw [Int32.lt_iff_toInt_lt] at q ⊢
      have : (0 : Int32).toInt = 0 := by decide
      have : (1 : Int32).toInt = 1 := by decide
      omega)))
    rw [pl_1, pl_99, pn_lt hv (by omega), pn_lt (by omega) hv] at h2
    exact ⟨v, by omega, by omega, rfl⟩
  have g2 : ∀ m, f_X9_isIn m (nI v) (nI 1) (nI 99) = nI 1 := fun m => px_in1 m hv1 hv99 (by omega)
  have k2 : ¬ nI v < 1 := by rw [pl_1, pn_lt (by omega) (by omega)]; omega
  have k3 : nI v ≤ 99 := by rw [pl_99, pn_le (by omega) (by omega)]; omega
  have k4 : f_X6_refusalOfPut (puC M b c l) b (nI i) (nI v) = if s (36 + 13 * i + 3) = 3 ∧ s (36 + 13 * i + 7) < 5 then 0 else 3 := by
    unfold f_X6_refusalOfPut
    rw [k1, if_neg (by decide), if_neg k2, if_pos k3, hR.st hi, hR.prl hi]
    by_cases q : s (36 + 13 * i + 7) < 5
    · rw [if_neg (by rw [pl_5, pn_le (by omega) (by omega)]; omega)]
      by_cases q2 : s (36 + 13 * i + 3) = 3
      · rw [if_pos ((pSt_eq _ h6.1).2.2.2.mpr q2), if_pos ⟨q2, q⟩]
      · rw [if_neg (fun e => q2 ((pSt_eq _ h6.1).2.2.2.mp e)), if_neg (fun e => q2 e.1)]
    · rw [if_pos (by rw [pl_5, pn_le (by omega) (by omega)]; omega), if_neg (show ¬ (s (36 + 13 * i + 3) = 3 ∧ s (36 + 13 * i + 7) < 5) from fun e => q e.2)]
      split <;> rfl
  by_cases hq : s (36 + 13 * i + 3) = 3 ∧ s (36 + 13 * i + 7) < 5
  case neg =>
    rw [if_neg hq] at k4
    refine Or.inr (Or.inl ⟨(3, 3), by simp, k4, ?_⟩)
    unfold q_X9_deposits f_X9_deposits
    simp (disch := first | omega | exact hb _) only [pl_0, pl_1, pl_2, pl_3, pl_4, pl_5, pl_6, pl_7, pl_8, pl_9, pl_10, pl_11, pl_12, pl_13, pl_25, pl_30, pl_36, pl_50, pl_60, pl_98, pl_99, pl_100, pl_102, pl_104, pl_105, pl_108, pl_111, pl_112, pl_116, pl_119, pl_166, pl_199, pl_202, pl_239, pl_240, pl_480, pl_999, pl_1000, puN_g, puN_p, puN_pt, px_thr0, px_thr1, px_qthr0, px_qthr1, nI_add, pn_mul, pn_c, pn_le, pn_lt, pn_eq, px_of, px_sets, px_ofh, px_seth, px_qof, px_qsets, px_qofh, px_qseth, pun_s, pun_n, ↓reduceIte, g1, g2]
    by_cases q : s (36 + 13 * i + 3) = 3
    · have q5 : s (36 + 13 * i + 7) = 5 := by
        have : ¬ s (36 + 13 * i + 7) < 5 := fun e => hq ⟨q, e⟩
        omega
      simp [q, q5]
    · simp [q]
  rw [if_pos hq] at k4
  obtain ⟨q3, q5⟩ := hq
  have q5' : ¬ s (36 + 13 * i + 7) = 5 := by omega
  obtain ⟨m, hm⟩ : ∃ m, m = s (36 + 13 * i + 7) := ⟨_, rfl⟩
  rw [← hm] at q5 q5'
  obtain ⟨c1, k5, g5, r1⟩ := pOk_log hR (kd := 100) (n := i) (by omega) (by omega)
  have e6 : c1 6 0 = nI (s 10) := by rw [k5 _ _ (by omega)]; exact c60
  have em : ∀ M b l, f_X0_pearlsIn (puC M b c1 l) b (nI i) = nI m := fun M b l => by
    rw [pc_pearls M b l e6 s10 hi, k5 _ _ (by omega), (hcx i hi).2.2.2.2.2.2.2.1, hm]
  have r2 : pOk (B + 240) (tvU (tvU c1 15 (i * 5 + m) (nI v)) 14 i (nI (m + 1))) (l + lN v) (pun (pun (pun (pLog s 100 i) (36 + 13 * i + (8 + m)) v) (36 + 13 * i + 7) (m + 1)) 6 (s 6 + v)) := by
    have hr1 := r1
    obtain ⟨⟨hb1, hs1, hh1, hx1, he1, hsum1⟩, ⟨hc1, hch1, hcx1, hcl1⟩⟩ := hr1
    have hpl : ∀ k, k < 166 → k ≠ 11 → pLog s 100 i k = s k := fun k h h2 => pLog_o s 100 i h h2
    have hx1i := hx1 i (by omega)
    have hcx1i := hcx1 i (by rw [hpl _ (by omega) (by omega)]; exact hi)
    refine pOk_pr (i := i) r1 (by rw [hpl _ (by omega) (by omega)]; exact hi) (pun_b (pun_b (pun_b hb1 _ _ (by omega)) _ _ (by omega)) _ _ (by omega)) ?_ (fun k h6 h7 hk => ?_) (fun p k hp hk => ?_) (fun k hk => ?_) ?_ ?_ ?_ ?_
    · have := hs'.up (B' := B + 240) (by omega) hB
      have h11 := pLog_le s 100 i s11
      unfold pRs at this ⊢
      simp (disch := omega) only [pun_s, pun_n, hpl]
      omega
    · have k7 := hk 7 (by omega) (by omega)
      have k8 := hk (8 + m) (by omega) (by omega)
      simp (disch := omega) only [pun_n]
    · by_cases e : p = 14
      · subst e
        rw [pcu_k _ _ _ (by omega), pcu_r _ _ _ _ (by omega)]
      · rw [pcu_r _ _ _ _ e, pcu_r _ _ _ _ hp]
    · rw [pcu_r _ _ _ _ (by omega), pcu_k _ _ _ (hk m (by omega))]
    · obtain ⟨d1, d2, d3, d4, d5, d6, d7⟩ := hx1i
      unfold pRx
      simp (disch := omega) only [pun_s, pun_n]
      refine ⟨d1, d2, d3, d4, by omega, fun j hj => ?_, fun q => absurd hi (by rw [hpl _ (by omega) (by omega)] at q; omega)⟩
      by_cases e : j = m
      · subst e
        simp (disch := omega) only [pun_s, pun_n]
        exact hv99
      · simp (disch := omega) only [pun_n]
        exact d6 j hj
    · obtain ⟨e1, e2, e3, e4, e5, e6, e7, e8, e9⟩ := hcx1i
      unfold pCx
      simp (disch := omega) only [pun_s, pun_n, pcu_r, pcu_s]
      refine ⟨e1, e2, e3, e4, e5, e6, e7, trivial, fun j hj => ?_⟩
      by_cases e : j = m
      · subst e
        simp (disch := omega) only [pun_s, pun_n, pcu_s]
      · rw [pcu_k _ _ _ (by omega)]
        try simp (disch := omega) only [pun_n]
        exact e9 j (by rw [hpl _ (by omega) (by omega)]; omega)
    · simp (disch := omega) only [pun_s, pun_n, hpl]
      rw [cl, lN_add]
      congr 1
      omega
    · have w1 : pWo (pLog s 100 i) i = psm (fun j => s (36 + 13 * i + (8 + j))) m := by
        unfold pWo
        rw [hpl _ (by omega) (by omega), ← hm]
        exact psm_c fun j hj => hpl _ (by omega) (by omega)
      have w2 : pWo (pun (pun (pun (pLog s 100 i) (36 + 13 * i + (8 + m)) v) (36 + 13 * i + 7) (m + 1)) 6 (s 6 + v)) i = psm (fun j => s (36 + 13 * i + (8 + j))) m + v := by
        unfold pWo
        simp (disch := omega) only [pun_s, pun_n]
        show psm _ m + _ = _
        congr 1
        · exact psm_c fun j hj => by simp (disch := omega) only [pun_n, hpl]
        · simp (disch := omega) only [pun_n, pun_s]
      rw [w1, w2]
      simp (disch := omega) only [pun_s, pun_n, hpl]
      omega
  have e7 : ∀ j, s (36 + 13 * i + (8 + j)) = s (36 + 13 * i + (8 + j)) := fun _ => rfl
  refine Or.inl ⟨k4, m + 1, _, _, _, by omega, ?_, ?_, ?_, r2, fun _ z hX => pXi_lo _ (by omega) (by omega) (pXi_bw (w := 7) _ (by omega) (by omega) (by omega) (pXi_bw (w := 8 + m) _ (by omega) (by omega) (by omega) (pXi_log _ _ s11 hX))), Nat.zero_le _⟩
  · simp only [f_X6_put, f_X0_addPearl, puC_l, puC_pl, puC_g0, c04, pl_100, pn_l (show v < 2 ^ 31 by omega), g5, em, nI_1]
    rw [pc_setValue M1 b (l + lN v) e6 s10 hi q5, pc_setPearls M1 b (l + lN v) (n := s 10) (m := m + 1) (by rw [pcu_r _ _ _ _ (by omega)]; exact e6) s10 hi (by omega)]
  · unfold q_X9_deposits
    simp (disch := first | omega | exact hb _ | (simp (disch := omega) only [pun_n, pun_s, pLog_o]; first | omega | (apply pLog_le; simp (disch := omega) only [pun_n]; omega))) only [pl_0, pl_1, pl_2, pl_3, pl_4, pl_5, pl_6, pl_7, pl_8, pl_9, pl_10, pl_11, pl_12, pl_13, pl_25, pl_30, pl_36, pl_50, pl_60, pl_98, pl_99, pl_100, pl_102, pl_104, pl_105, pl_108, pl_111, pl_112, pl_116, pl_119, pl_166, pl_199, pl_202, pl_239, pl_240, pl_480, pl_999, pl_1000, puN_g, puN_p, puN_pt, px_thr0, px_thr1, px_qthr0, px_qthr1, nI_add, pn_mul, pn_c, pn_le, pn_lt, pn_eq, px_of, px_sets, px_ofh, px_seth, px_qof, px_qsets, px_qofh, px_qseth, pun_s, pun_n, ↓reduceIte, px_rings, px_hap, px_qhap, pLog_o, pun_pun, g1, g2, q3, ← hm, q5']
    simp
  · unfold f_X9_deposits
    simp (disch := first | omega | exact hb _ | (simp (disch := omega) only [pun_n, pun_s, pLog_o]; first | omega | (apply pLog_le; simp (disch := omega) only [pun_n]; omega))) only [pl_0, pl_1, pl_2, pl_3, pl_4, pl_5, pl_6, pl_7, pl_8, pl_9, pl_10, pl_11, pl_12, pl_13, pl_25, pl_30, pl_36, pl_50, pl_60, pl_98, pl_99, pl_100, pl_102, pl_104, pl_105, pl_108, pl_111, pl_112, pl_116, pl_119, pl_166, pl_199, pl_202, pl_239, pl_240, pl_480, pl_999, pl_1000, puN_g, puN_p, puN_pt, px_thr0, px_thr1, px_qthr0, px_qthr1, nI_add, pn_mul, pn_c, pn_le, pn_lt, pn_eq, px_of, px_sets, px_ofh, px_seth, px_qof, px_qsets, px_qofh, px_qseth, pun_s, pun_n, ↓reduceIte, px_rings, px_hap, px_qhap, pLog_o, pun_pun, g1, g2, q3, ← hm, q5']
    rw [pLog_pun _ _ _ _ (by omega) (by omega) (by omega), pLog_pun _ _ _ _ (by omega) (by omega) (by omega), pLog_pun _ _ _ _ (by omega) (by omega) (by omega)]
    try simp

