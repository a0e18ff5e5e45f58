/-! ===== codes told ===== -/
theorem px_hap (M : tvM) (s : Nat → Nat) (t : Int32) (kd n : Nat) (h : s 11 ≤ 12) : f_X9_happens (puN M s t) (nI kd) (nI n) = puN M (pLog s kd n) t := (px_happens M s t kd n h).2
theorem px_qhap (M : tvM) (s : Nat → Nat) (t : Int32) (kd n : Nat) (h : s 11 ≤ 12) : q_X9_happens (puN M s t) (nI kd) (nI n) := (px_happens M s t kd n h).1
theorem pun_pun (s : Nat → Nat) (k v w : Nat) : pun (pun s k v) k w = pun s k w := by
  funext j
  unfold pun
  split <;> rfl
theorem pLog_le (s : Nat → Nat) (kd n : Nat) (h : s 11 ≤ 12) : pLog s kd n 11 ≤ 12 := by
  rw [pLog_11]
  split <;> omega
theorem pOk_told {B : Nat} {c : Nat → Nat → Int32} {l : Int64} {s : Nat → Nat} (hR : pOk B c l s) (hB : B + 1 ≤ 10000000) : pOk (B + 1) (tvU c 0 6 (nI (s 4 + 1))) l (pun s 4 (s 4 + 1)) := by
  obtain ⟨⟨hb, hs, hh, hx, he, hsum⟩, ⟨hc, hch, hcx, hcl⟩⟩ := id hR
  have hs' := hs
  obtain ⟨s0, s1, s2, s3, s45, s67, s8, s9, s10, s11, sB⟩ := hs
  have hc' := hc
  obtain ⟨c04, c05, c06, c07, cl, c10, c11, c20, c60⟩ := hc
  refine pOk_sc hR (pun_b hb _ _ (by omega)) ?_ (by simp (disch := omega) only [pun_n]; omega) (fun k hk => by simp (disch := omega) only [pun_n]) (fun p k hp => by simp (disch := omega) only [pcu_r]) ?_
  · have := hs'.up (B' := B + 1) (by omega) hB
    unfold pRs at this ⊢
    simp (disch := omega) only [pun_s, pun_n]
    omega
  · unfold pCs
    simp (disch := omega) only [pun_n, pun_s, pcu_r, pcu_k, pcu_s, true_and]
    exact ⟨c04, c05, c07, cl, c10, c11, c20, c60⟩
theorem pOk_fail {B : Nat} {c : Nat → Nat → Int32} {l : Int64} {s : Nat → Nat} (hR : pOk B c l s) (h5 : s 5 + 1 ≤ B) : pOk B (tvU c 0 7 (nI (s 5 + 1))) l (pun s 5 (s 5 + 1)) := by
  obtain ⟨⟨hb, hs, hh, hx, he, hsum⟩, ⟨hc, hch, hcx, hcl⟩⟩ := id hR
  have hs' := hs
  obtain ⟨s0, s1, s2, s3, s45, s67, s8, s9, s10, s11, sB⟩ := hs
  have hc' := hc
  obtain ⟨c04, c05, c06, c07, cl, c10, c11, c20, c60⟩ := hc
  refine pOk_sc hR (pun_b hb _ _ (by omega)) ?_ (by simp (disch := omega) only [pun_n]; omega) (fun k hk => by simp (disch := omega) only [pun_n]) (fun p k hp => by simp (disch := omega) only [pcu_r]) ?_
  · unfold pRs at hs' ⊢
    simp (disch := omega) only [pun_s, pun_n]
    omega
  · unfold pCs
    simp (disch := omega) only [pun_n, pun_s, pcu_r, pcu_k, pcu_s, true_and]
    exact ⟨c04, c05, c06, cl, c10, c11, c20, c60⟩
theorem pOk_alarm {B : Nat} {c : Nat → Nat → Int32} {l : Int64} {s : Nat → Nat} (hR : pOk B c l s) {v : Nat} (hv : v ≤ 99) : pOk B (tvU c 0 5 (nI v)) l (pun s 3 v) := by
  obtain ⟨⟨hb, hs, hh, hx, he, hsum⟩, ⟨hc, hch, hcx, hcl⟩⟩ := id hR
  have hs' := hs
  obtain ⟨s0, s1, s2, s3, s45, s67, s8, s9, s10, s11, sB⟩ := hs
  have hc' := hc
  obtain ⟨c04, c05, c06, c07, cl, c10, c11, c20, c60⟩ := hc
  refine pOk_sc hR (pun_b hb _ _ (by omega)) ?_ (by simp (disch := omega) only [pun_n]; omega) (fun k hk => by simp (disch := omega) only [pun_n]) (fun p k hp => by simp (disch := omega) only [pcu_r]) ?_
  · unfold pRs at hs' ⊢
    simp (disch := omega) only [pun_s, pun_n]
    omega
  · unfold pCs
    simp (disch := omega) only [pun_n, pun_s, pcu_r, pcu_k, pcu_s, true_and]
    exact ⟨c04, c06, c07, cl, c10, c11, c20, c60⟩
theorem pOk_att {B : Nat} {c : Nat → Nat → Int32} {l : Int64} {s : Nat → Nat} {h v : Nat} (hR : pOk B c l s) (hh9 : h < s 9) (hv : v ≤ 2) : pOk B (tvU c 4 h (nI v)) l (pun s (12 + 3 * h + 1) v) := by
  obtain ⟨⟨hb, hs, hh, hx, he, hsum⟩, ⟨hc, hch, hcx, hcl⟩⟩ := id hR
  have hs' := hs
  obtain ⟨s0, s1, s2, s3, s45, s67, s8, s9, s10, s11, sB⟩ := hs
  have hc' := hc
  obtain ⟨c04, c05, c06, c07, cl, c10, c11, c20, c60⟩ := hc
  refine pOk_ho (w := 1) hR (by omega) hh9 (by omega) ?_
  have := hh h (by omega)
  unfold pRh at this ⊢
  simp (disch := omega) only [pun_s, pun_n]
  omega
theorem pOk_lock {B : Nat} {c : Nat → Nat → Int32} {l : Int64} {s : Nat → Nat} {h v : Nat} (hR : pOk B c l s) (hh9 : h < s 9) (hv : v ≤ s 0 + 30) : pOk B (tvU c 5 h (nI v)) l (pun s (12 + 3 * h + 2) v) := by
  obtain ⟨⟨hb, hs, hh, hx, he, hsum⟩, ⟨hc, hch, hcx, hcl⟩⟩ := id hR
  have hs' := hs
  obtain ⟨s0, s1, s2, s3, s45, s67, s8, s9, s10, s11, sB⟩ := hs
  have hc' := hc
  obtain ⟨c04, c05, c06, c07, cl, c10, c11, c20, c60⟩ := hc
  refine pOk_ho (w := 2) hR (by omega) hh9 (by omega) ?_
  have := hh h (by omega)
  unfold pRh at this ⊢
  simp (disch := omega) only [pun_s, pun_n]
  omega
theorem pOk_code {B : Nat} {c : Nat → Nat → Int32} {l : Int64} {s : Nat → Nat} {h v : Nat} (hR : pOk B c l s) (hh9 : h < s 9) (hv : v ≤ 999) : pOk B (tvU c 3 h (nI v)) l (pun s (12 + 3 * h + 0) v) := by
  obtain ⟨⟨hb, hs, hh, hx, he, hsum⟩, ⟨hc, hch, hcx, hcl⟩⟩ := id hR
  have hs' := hs
  obtain ⟨s0, s1, s2, s3, s45, s67, s8, s9, s10, s11, sB⟩ := hs
  have hc' := hc
  obtain ⟨c04, c05, c06, c07, cl, c10, c11, c20, c60⟩ := hc
  refine pOk_ho (w := 0) hR (by omega) hh9 (by omega) ?_
  have := hh h (by omega)
  unfold pRh at this ⊢
  simp (disch := omega) only [pun_s, pun_n]
  omega
/-- the right code -/
theorem pRight {B : Nat} {c : Nat → Nat → Int32} {l : Int64} {s : Nat → Nat} {h : Nat} (hR : pOk B c l s) (hB : B + 1 ≤ 10000000) (hh9 : h < s 9) : (∀ M b, f_X6_hearRightCode (puC M b c l) b (nI h) = puC M b (tvU (tvU c 0 6 (nI (s 4 + 1))) 4 h (nI 0)) l) ∧ (∀ M' t, q_X9_isWrong (puN M' s t) (nI h) (nI (s (12 + 3 * h + 0))) ∧ f_X9_isWrong (puN M' s t) (nI h) (nI (s (12 + 3 * h + 0))) = (nI 0, puN M' (pun (pun s 4 (s 4 + 1)) (12 + 3 * h + 1) 0) t)) ∧ pOk (B + 1) (tvU (tvU c 0 6 (nI (s 4 + 1))) 4 h (nI 0)) l (pun (pun s 4 (s 4 + 1)) (12 + 3 * h + 1) 0) := by
  obtain ⟨⟨hb, hs, hh, hx, he, hsum⟩, ⟨hc, hch, hcx, hcl⟩⟩ := id hR
  have hs' := hs
  obtain ⟨s0, s1, s2, s3, s45, s67, s8, s9, s10, s11, sB⟩ := hs
  have hc' := hc
  obtain ⟨c04, c05, c06, c07, cl, c10, c11, c20, c60⟩ := hc
  refine ⟨fun M b => ?_, fun M' t => ⟨?_, ?_⟩, pOk_att (pOk_told hR hB) (by simp (disch := omega) only [pun_n]; exact hh9) (by omega)⟩
  · unfold f_X6_hearRightCode
    rw [puC_g0, c06, nI_1, puC_p0, pc_setAtt M b l (by simp (disch := omega) only [pcu_r]; exact c20) s9 hh9]; rfl
  · unfold q_X9_isWrong
    simp (disch := first | omega | exact hb _ | (simp (disch := omega) only [pun_n, pun_s, pLog_o]; first | omega | (apply pLog_le; simp (disch := omega) only [pun_n]; omega))) only [pl_0, pl_1, pl_2, pl_3, pl_4, pl_5, pl_6, pl_7, pl_8, pl_9, pl_10, pl_11, pl_12, pl_13, pl_25, pl_30, pl_36, pl_50, pl_60, pl_98, pl_99, pl_100, pl_102, pl_104, pl_105, pl_108, pl_111, pl_112, pl_116, pl_119, pl_166, pl_199, pl_202, pl_239, pl_240, pl_480, pl_999, pl_1000, puN_g, puN_p, puN_pt, px_thr0, px_thr1, px_qthr0, px_qthr1, nI_add, pn_mul, pn_c, pn_le, pn_lt, pn_eq, px_of, px_sets, px_ofh, px_seth, px_qof, px_qsets, px_qofh, px_qseth, pun_s, pun_n, ↓reduceIte, px_rings, px_hap, px_qhap, pLog_o, pun_pun]
    simp
  · unfold f_X9_isWrong
    simp (disch := first | omega | exact hb _ | (simp (disch := omega) only [pun_n, pun_s, pLog_o]; first | omega | (apply pLog_le; simp (disch := omega) only [pun_n]; omega))) only [pl_0, pl_1, pl_2, pl_3, pl_4, pl_5, pl_6, pl_7, pl_8, pl_9, pl_10, pl_11, pl_12, pl_13, pl_25, pl_30, pl_36, pl_50, pl_60, pl_98, pl_99, pl_100, pl_102, pl_104, pl_105, pl_108, pl_111, pl_112, pl_116, pl_119, pl_166, pl_199, pl_202, pl_239, pl_240, pl_480, pl_999, pl_1000, puN_g, puN_p, puN_pt, px_thr0, px_thr1, px_qthr0, px_qthr1, nI_add, pn_mul, pn_c, pn_le, pn_lt, pn_eq, px_of, px_sets, px_ofh, px_seth, px_qof, px_qsets, px_qofh, px_qseth, pun_s, pun_n, ↓reduceIte, px_rings, px_hap, px_qhap, pLog_o, pun_pun]
/-- a wrong code -/
theorem pHear {B : Nat} {c : Nat → Nat → Int32} {l : Int64} {s : Nat → Nat} {h : Nat} (hR : pOk B c l s) (hB : B + 1 ≤ 10000000) (hh9 : h < s 9) : ∃ (c' : Nat → Nat → Int32) (s' : Nat → Nat), (∀ M b, f_X6_hearWrongCode (puC M b c l) b (nI h) = puC M b c' l) ∧ (∀ M' t x, ¬ nI (s (12 + 3 * h + 0)) = x → q_X9_isWrong (puN M' s t) (nI h) x ∧ f_X9_isWrong (puN M' s t) (nI h) x = (nI 1, puN M' s' t)) ∧ pOk (B + 1) c' l s' ∧ (∀ z : Nat × Nat, pXi z s → pXi z s') ∧ s 3 ≤ s' 3 := by
  obtain ⟨⟨hb, hs, hh, hx, he, hsum⟩, ⟨hc, hch, hcx, hcl⟩⟩ := id hR
  have hs' := hs
  obtain ⟨s0, s1, s2, s3, s45, s67, s8, s9, s10, s11, sB⟩ := hs
  have hc' := hc
  obtain ⟨c04, c05, c06, c07, cl, c10, c11, c20, c60⟩ := hc
  have r1 := pOk_told hR hB
  have r2 := pOk_fail r1 (by simp (disch := omega) only [pun_n]; omega)
  have r3 := pOk_alarm r2 (v := min (s 3 + 10) 99) (by omega)
  obtain ⟨c4, k4, g4, r4⟩ := pOk_log r3 (kd := 102) (n := h) (by omega) (by omega)
  simp (disch := omega) only [pun_n] at r2 r3 k4 g4 r4
  have hat := (hh h (by omega)).1
  have hch9 := hch h hh9
  have z0 := hch9.2.1
  have e4 : ∀ k, k ≠ 5 → k ≠ 6 → k ≠ 7 → c4 0 k = c 0 k := fun k _ _ _ => by rw [k4 0 k (by omega)]; simp (disch := omega) only [pcu_k]
  have e5 : c4 0 5 = nI (min (s 3 + 10) 99) := by rw [k4 0 5 (by omega)]; simp (disch := omega) only [pcu_s]
  have e6 : ∀ p k, 0 < p → p < 16 → c4 p k = c p k := fun p k _ _ => by rw [k4 p k (by omega)]; simp (disch := omega) only [pcu_r]
  have f3 : ∀ M b, f_X6_raiseAlarm (puC M b (tvU (tvU c 0 6 (nI (s 4 + 1))) 0 7 (nI (s 5 + 1))) l) b (nI 10) = puC M b (tvU (tvU (tvU c 0 6 (nI (s 4 + 1))) 0 7 (nI (s 5 + 1))) 0 5 (nI (min (s 3 + 10) 99))) l := fun M b => pc_alarm M b l (by simp (disch := omega) only [pcu_k]; exact c05) s3 (by omega)
  have f5 : ∀ M b, f_X2_attemptsOf (puC M b c4 l) b (nI h) = nI (s (12 + 3 * h + 1)) := fun M b => by rw [pc_att M b l (by rw [e6 2 0 (by omega) (by omega)]; exact c20) s9 hh9, e6 4 h (by omega) (by omega)]; exact z0
  have f6 : ∀ M b v, f_X2_setAttempts (puC M b c4 l) b (nI h) v = puC M b (tvU c4 4 h v) l := fun M b v => pc_setAtt M b l (by rw [e6 2 0 (by omega) (by omega)]; exact c20) s9 hh9 v
  by_cases q : s (12 + 3 * h + 1) = 2
  · have r5 := pOk_att r4 (h := h) (v := 0) (by simp (disch := omega) only [pLog_o, pun_n]; exact hh9) (by omega)
    have r6 := pOk_lock r5 (h := h) (v := s 0 + 30) (by simp (disch := omega) only [pLog_o, pun_n]; exact hh9) (by simp (disch := omega) only [pLog_o, pun_n]; omega)
    have r7 := pOk_alarm r6 (v := min (min (s 3 + 10) 99 + 25) 99) (by omega)
    obtain ⟨c8, k8, g8, r8⟩ := pOk_log r7 (kd := 108) (n := h) (by omega) (by omega)
    simp (disch := omega) only [pun_n, pLog_o] at g8
    have f7 : ∀ M b v, f_X2_lock (puC M b (tvU c4 4 h (nI 0)) l) b (nI h) v = puC M b (tvU (tvU c4 4 h (nI 0)) 5 h v) l := fun M b v => pc_lock M b l (by rw [pcu_r _ _ _ _ (by omega), e6 2 0 (by omega) (by omega)]; exact c20) s9 hh9 v
    have f8 : ∀ M b, f_X6_raiseAlarm (puC M b (tvU (tvU c4 4 h (nI 0)) 5 h (nI (s 0 + 30))) l) b (nI 25) = puC M b (tvU (tvU (tvU c4 4 h (nI 0)) 5 h (nI (s 0 + 30))) 0 5 (nI (min (min (s 3 + 10) 99 + 25) 99))) l := fun M b => pc_alarm M b l (by simp (disch := omega) only [pcu_r]; exact e5) (by omega) (by omega)
    refine ⟨_, _, fun M b => ?_, fun M' t x hx' => ⟨?_, ?_⟩, r8, fun z hX => (pXi_log _ _ (by first | (simp (disch := omega) only [pun_n]; omega) | (simp (disch := omega) only [pun_n]; apply pLog_le; simp (disch := omega) only [pun_n]; omega)) (pXi_lo _ (by omega) (by omega) (pXi_ho (w := 2) _ (by omega) (by omega) (by omega) (pXi_ho (w := 1) _ (by omega) (by omega) (by omega) (pXi_log _ _ (by first | (simp (disch := omega) only [pun_n]; omega) | (simp (disch := omega) only [pun_n]; apply pLog_le; simp (disch := omega) only [pun_n]; omega)) (pXi_lo _ (by omega) (by omega) (pXi_lo _ (by omega) (by omega) (pXi_lo _ (by omega) (by omega) hX)))))))), by simp (disch := omega) only [pLog_o, pun_s, pun_n]; omega⟩
    · unfold f_X6_hearWrongCode
      simp (disch := omega) only [pl_0, pl_1, pl_2, pl_3, pl_4, pl_5, pl_6, pl_7, pl_8, pl_9, pl_10, pl_11, pl_12, pl_13, pl_25, pl_30, pl_36, pl_50, pl_60, pl_98, pl_99, pl_100, pl_102, pl_104, pl_105, pl_108, pl_111, pl_112, pl_116, pl_119, pl_166, pl_199, pl_202, pl_239, pl_240, pl_480, pl_999, pl_1000, puC_g0, puC_p0, c04, c05, c06, c07, nI_add, pcu_r, pcu_k, pcu_s, f3, g4, f5, f6, f7, f8, e4, g8, q, pn_le, ↓reduceIte]
      try simp
    · unfold q_X9_isWrong
      simp (disch := first | omega | exact hb _ | (simp (disch := omega) only [pun_n, pun_s, pLog_o]; first | omega | (apply pLog_le; simp (disch := omega) only [pun_n]; omega))) only [pl_0, pl_1, pl_2, pl_3, pl_4, pl_5, pl_6, pl_7, pl_8, pl_9, pl_10, pl_11, pl_12, pl_13, pl_25, pl_30, pl_36, pl_50, pl_60, pl_98, pl_99, pl_100, pl_102, pl_104, pl_105, pl_108, pl_111, pl_112, pl_116, pl_119, pl_166, pl_199, pl_202, pl_239, pl_240, pl_480, pl_999, pl_1000, puN_g, puN_p, puN_pt, px_thr0, px_thr1, px_qthr0, px_qthr1, nI_add, pn_mul, pn_c, pn_le, pn_lt, pn_eq, px_of, px_sets, px_ofh, px_seth, px_qof, px_qsets, px_qofh, px_qseth, pun_s, pun_n, ↓reduceIte, px_rings, px_hap, px_qhap, pLog_o, pun_pun, hx', q]
      try simp
    · unfold f_X9_isWrong
      simp (disch := first | omega | exact hb _ | (simp (disch := omega) only [pun_n, pun_s, pLog_o]; first | omega | (apply pLog_le; simp (disch := omega) only [pun_n]; omega))) only [pl_0, pl_1, pl_2, pl_3, pl_4, pl_5, pl_6, pl_7, pl_8, pl_9, pl_10, pl_11, pl_12, pl_13, pl_25, pl_30, pl_36, pl_50, pl_60, pl_98, pl_99, pl_100, pl_102, pl_104, pl_105, pl_108, pl_111, pl_112, pl_116, pl_119, pl_166, pl_199, pl_202, pl_239, pl_240, pl_480, pl_999, pl_1000, puN_g, puN_p, puN_pt, px_thr0, px_thr1, px_qthr0, px_qthr1, nI_add, pn_mul, pn_c, pn_le, pn_lt, pn_eq, px_of, px_sets, px_ofh, px_seth, px_qof, px_qsets, px_qofh, px_qseth, pun_s, pun_n, ↓reduceIte, px_rings, px_hap, px_qhap, pLog_o, pun_pun, hx', q]
      try simp
  · have r5 := pOk_att r4 (h := h) (v := s (12 + 3 * h + 1) + 1) (by simp (disch := omega) only [pLog_o, pun_n]; exact hh9) (by omega)
    refine ⟨_, _, fun M b => ?_, fun M' t x hx' => ⟨?_, ?_⟩, r5, fun z hX => (pXi_ho (w := 1) _ (by omega) (by omega) (by omega) (pXi_log _ _ (by first | (simp (disch := omega) only [pun_n]; omega) | (simp (disch := omega) only [pun_n]; apply pLog_le; simp (disch := omega) only [pun_n]; omega)) (pXi_lo _ (by omega) (by omega) (pXi_lo _ (by omega) (by omega) (pXi_lo _ (by omega) (by omega) hX))))), by simp (disch := omega) only [pLog_o, pun_s, pun_n]; omega⟩
    · unfold f_X6_hearWrongCode
      simp (disch := omega) only [pl_0, pl_1, pl_2, pl_3, pl_4, pl_5, pl_6, pl_7, pl_8, pl_9, pl_10, pl_11, pl_12, pl_13, pl_25, pl_30, pl_36, pl_50, pl_60, pl_98, pl_99, pl_100, pl_102, pl_104, pl_105, pl_108, pl_111, pl_112, pl_116, pl_119, pl_166, pl_199, pl_202, pl_239, pl_240, pl_480, pl_999, pl_1000, puC_g0, puC_p0, c04, c05, c06, c07, nI_add, pcu_r, pcu_k, pcu_s, f3, g4, f5, f6, e4, pn_le, ↓reduceIte]
      rw [if_neg (by omega)]
    · unfold q_X9_isWrong
      simp (disch := first | omega | exact hb _ | (simp (disch := omega) only [pun_n, pun_s, pLog_o]; first | omega | (apply pLog_le; simp (disch := omega) only [pun_n]; omega))) only [pl_0, pl_1, pl_2, pl_3, pl_4, pl_5, pl_6, pl_7, pl_8, pl_9, pl_10, pl_11, pl_12, pl_13, pl_25, pl_30, pl_36, pl_50, pl_60, pl_98, pl_99, pl_100, pl_102, pl_104, pl_105, pl_108, pl_111, pl_112, pl_116, pl_119, pl_166, pl_199, pl_202, pl_239, pl_240, pl_480, pl_999, pl_1000, puN_g, puN_p, puN_pt, px_thr0, px_thr1, px_qthr0, px_qthr1, nI_add, pn_mul, pn_c, pn_le, pn_lt, pn_eq, px_of, px_sets, px_ofh, px_seth, px_qof, px_qsets, px_qofh, px_qseth, pun_s, pun_n, ↓reduceIte, px_rings, px_hap, px_qhap, pLog_o, pun_pun, hx']
      try simp
      try omega
    · unfold f_X9_isWrong
      simp (disch := first | omega | exact hb _ | (simp (disch := omega) only [pun_n, pun_s, pLog_o]; first | omega | (apply pLog_le; simp (disch := omega) only [pun_n]; omega))) only [pl_0, pl_1, pl_2, pl_3, pl_4, pl_5, pl_6, pl_7, pl_8, pl_9, pl_10, pl_11, pl_12, pl_13, pl_25, pl_30, pl_36, pl_50, pl_60, pl_98, pl_99, pl_100, pl_102, pl_104, pl_105, pl_108, pl_111, pl_112, pl_116, pl_119, pl_166, pl_199, pl_202, pl_239, pl_240, pl_480, pl_999, pl_1000, puN_g, puN_p, puN_pt, px_thr0, px_thr1, px_qthr0, px_qthr1, nI_add, pn_mul, pn_c, pn_le, pn_lt, pn_eq, px_of, px_sets, px_ofh, px_seth, px_qof, px_qsets, px_qofh, px_qseth, pun_s, pun_n, ↓reduceIte, px_rings, px_hap, px_qhap, pLog_o, pun_pun, hx']
      try simp
      try omega

