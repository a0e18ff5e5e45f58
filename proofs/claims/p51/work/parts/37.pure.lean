/-! ===== locked; the four signs; the relation's parts ===== -/
theorem px_locked (M : tvM) (s : Nat → Nat) (t : Int32) {h : Nat} (hh : h < 8) (hb : ∀ k, s k < 2147483648) : f_X9_locked (puN M s t) (nI h) = if s 0 < s (12 + 3 * h + 2) then nI 1 else nI 0 := by
  unfold f_X9_locked
  have e : f_X9_ofHolder (puN M s t) (nI h) 2 = nI (s (12 + 3 * h + 2)) := px_ofh M s t (w := 2) hh (by omega)
  rw [e, puN_g]
  by_cases q : s 0 < s (12 + 3 * h + 2)
  · rw [if_pos q, if_neg (by rw [pn_le (hb _) (hb _)]; omega)]; rfl
  · rw [if_neg q, if_pos (by rw [pn_le (hb _) (hb _)]; omega)]; rfl
theorem px_qlocked (M : tvM) {h : Nat} (hh : h < 8) : q_X9_locked M (nI h) := ⟨px_qofh M (w := 2) hh (by omega), fun _ => trivial, fun _ => trivial⟩
theorem pc_locked (M : tvM) (b : Nat) {c : Nat → Nat → Int32} (l : Int64) {n i e T : Nat} (h : c 2 0 = nI n) (hn : n ≤ 8) (hi : i < n) (h4 : c 0 4 = nI T) (h5 : c 5 i = nI e) (he : e < 2147483648) (hT : T < 2147483648) : f_X6_isLocked (puC M b c l) b (nI i) = if T < e then 1 else 0 := by
  unfold f_X6_isLocked
  rw [puC_g0, h4, pc_lockedFor M b l h hn hi h5 he hT]
  by_cases q : T < e
  · rw [if_pos q, if_neg (by rw [pl_0, pn_le (by omega) (by omega)]; omega)]
  · rw [if_neg q, if_pos (by rw [pl_0, pn_le (by omega) (by omega)]; omega)]
theorem pSt_tnc (k : Nat) : tnc (pSt k) = pSt k := by
  rcases (show k = 0 ∨ k = 1 ∨ k = 2 ∨ 3 ≤ k by omega) with rfl | rfl | rfl | h
  · decide
  · decide
  · decide
  · obtain ⟨j, rfl⟩ := Nat.exists_eq_add_of_le h
    rw [Nat.add_comm]
    show tnc 111 = 111
    decide
theorem pSt_eq (k : Nat) (h : k ≤ 3) : (pSt k = 99 ↔ k = 0) ∧ (pSt k = 104 ↔ k = 1) ∧ (pSt k = 112 ↔ k = 2) ∧ (pSt k = 111 ↔ k = 3) := by
  rcases (show k = 0 ∨ k = 1 ∨ k = 2 ∨ k = 3 by omega) with rfl | rfl | rfl | rfl <;> decide
/-! ===== changing a code ===== -/
theorem pSim_codes {B : Nat} {c : Nat → Nat → Int32} {l : Int64} {s : Nat → Nat} (b : Nat) (hR : pOk B c l s) (hB : B + 240 ≤ 10000000) (x1 x2 x3 : Int32) : pSim B c l s b (fun m => f_X6_refusalOfCode m b x1 x2 x3) (fun m => f_X6_recode m b x1 x3) (fun m => f_X6_hearWrongCode m b x1) (fun m => f_X9_codes m x1 x2 x3) (fun m => q_X9_codes m x1 x2 x3) [(1, 1), (2, 2), (3, 3)] (∀ h, h < 4 → x1 = nI h → x3 = nI (7 * h)) 0 := by
  intro M M1 M' t
  obtain ⟨⟨hb, hs, hh, hx, he, hsum⟩, ⟨hc, hch, hcx, hcl⟩⟩ := id hR
  have hs' := hs
  obtain ⟨s0, s1, s2, s3, s45, s67, s8, s9, s10, s11, sB⟩ := hs
  have hc' := hc
  obtain ⟨c04, c05, c06, c07, cl, c10, c11, c20, c60⟩ := hc
  by_cases h1 : ∃ i, i < s 9 ∧ x1 = nI i
  case neg =>
    have g1 : ∀ t, f_X9_isHolder (puN M' s t) x1 = nI 0 := fun t => px_hol0 M' s t x1 s9 h1
    refine Or.inr (Or.inl ⟨(1, 1), by simp, ?_, ?_⟩)
    · simp only [f_X6_refusalOfCode, pc_hh0 M b l c20 s9 h1, ↓reduceIte]
    · unfold q_X9_codes f_X9_codes
      simp (disch := first | omega | exact hb _) only [pl_0, pl_1, pl_2, pl_3, pl_4, pl_5, pl_6, pl_7, pl_8, pl_9, pl_10, pl_11, pl_12, pl_13, pl_25, pl_30, pl_36, pl_50, pl_60, pl_98, pl_99, pl_100, pl_102, pl_104, pl_105, pl_108, pl_111, pl_112, pl_116, pl_119, pl_166, pl_199, pl_202, pl_239, pl_240, pl_480, pl_999, pl_1000, puN_g, puN_p, puN_pt, px_thr0, px_thr1, px_qthr0, px_qthr1, nI_add, pn_mul, pn_c, pn_le, pn_lt, pn_eq, px_of, px_sets, px_ofh, px_seth, px_qof, px_qsets, px_qofh, px_qseth, pun_s, pun_n, ↓reduceIte, g1]
      simp
  obtain ⟨h, hh9, rfl⟩ := h1
  have g1 : ∀ t, f_X9_isHolder (puN M' s t) (nI h) = nI 1 := fun t => px_hol1 M' s t s9 hh9
  have k1 := pc_hh1 M b l c20 s9 hh9
  by_cases h3 : x3 < 0 ∨ 999 < x3
  · have g3 : ∀ m, f_X9_isIn m x3 (nI 0) (nI 999) = nI 0 := fun m => px_inB m h3
    refine Or.inr (Or.inl ⟨(2, 2), by simp, ?_, ?_⟩)
    · simp only [f_X6_refusalOfCode, k1, pc_code0 _ b h3, ↓reduceIte]
      simp
    · unfold q_X9_codes f_X9_codes
      simp (disch := first | omega | exact hb _) only [pl_0, pl_1, pl_2, pl_3, pl_4, pl_5, pl_6, pl_7, pl_8, pl_9, pl_10, pl_11, pl_12, pl_13, pl_25, pl_30, pl_36, pl_50, pl_60, pl_98, pl_99, pl_100, pl_102, pl_104, pl_105, pl_108, pl_111, pl_112, pl_116, pl_119, pl_166, pl_199, pl_202, pl_239, pl_240, pl_480, pl_999, pl_1000, puN_g, puN_p, puN_pt, px_thr0, px_thr1, px_qthr0, px_qthr1, nI_add, pn_mul, pn_c, pn_le, pn_lt, pn_eq, px_of, px_sets, px_ofh, px_seth, px_qof, px_qsets, px_qofh, px_qseth, pun_s, pun_n, ↓reduceIte, g1, g3]
      simp
  obtain ⟨n, hn, rfl⟩ := pn_code h3
  have g3 : ∀ m, f_X9_isIn m (nI n) (nI 0) (nI 999) = nI 1 := fun m => px_code1 m hn
  have k3 := pc_code1 (puC M b c l) b hn
  obtain ⟨z0, z1, z2⟩ := hch h hh9
  have k2 := pc_locked M b l c20 s9 hh9 c04 z2 (hb _) (hb _)
  have g2 : ∀ t, f_X9_locked (puN M' s t) (nI h) = if s 0 < s (12 + 3 * h + 2) then nI 1 else nI 0 := fun t => px_locked M' s t (by omega) hb
  have g2q : ∀ m, q_X9_locked m (nI h) := fun m => px_qlocked m (by omega)
  by_cases hl : s 0 < s (12 + 3 * h + 2)
  · rw [if_pos hl] at k2
    simp only [if_pos hl] at g2
    refine Or.inr (Or.inl ⟨(3, 3), by simp, ?_, ?_⟩)
    · simp only [f_X6_refusalOfCode, k1, k2, k3, ↓reduceIte]
      simp
    · unfold q_X9_codes f_X9_codes
      simp (disch := first | omega | exact hb _) only [pl_0, pl_1, pl_2, pl_3, pl_4, pl_5, pl_6, pl_7, pl_8, pl_9, pl_10, pl_11, pl_12, pl_13, pl_25, pl_30, pl_36, pl_50, pl_60, pl_98, pl_99, pl_100, pl_102, pl_104, pl_105, pl_108, pl_111, pl_112, pl_116, pl_119, pl_166, pl_199, pl_202, pl_239, pl_240, pl_480, pl_999, pl_1000, puN_g, puN_p, puN_pt, px_thr0, px_thr1, px_qthr0, px_qthr1, nI_add, pn_mul, pn_c, pn_le, pn_lt, pn_eq, px_of, px_sets, px_ofh, px_seth, px_qof, px_qsets, px_qofh, px_qseth, pun_s, pun_n, ↓reduceIte, g1, g2, g2q, g3]
      simp
  rw [if_neg hl] at k2
  simp only [if_neg hl] at g2
  by_cases hcode : nI (s (12 + 3 * h + 0)) = x2
  · subst hcode
    obtain ⟨w1, w2, w3⟩ := pRight hR (by omega) hh9
    refine Or.inl ⟨?_, s (12 + 3 * h + 1), tvU (tvU (tvU c 0 6 (nI (s 4 + 1))) 4 h (nI 0)) 3 h (nI n), l, pun (pun (pun s 4 (s 4 + 1)) (12 + 3 * h + 1) 0) (12 + 3 * h + 0) n, by have := (hh h (by omega)).1; omega, ?_, ?_, ?_, ?_, fun g z hX => pXi_code (by omega) (fun h4 => (pn_eq (by omega) (by omega)).mp (g h h4 rfl)) (pXi_ho (w := 1) _ (by omega) (by omega) (by omega) (pXi_lo _ (by omega) (by omega) hX)), Nat.zero_le _⟩
    · simp only [f_X6_refusalOfCode, k1, k2, k3, pc_code M b l c20 s9 hh9, z0, ↓reduceIte]
      simp
    · simp only [f_X6_recode, pc_att M1 b l c20 s9 hh9, z1, w1]
      rw [pc_setCode M1 b l (by simp (disch := omega) only [pcu_r]; exact c20) s9 hh9]
    · unfold q_X9_codes
      simp (disch := first | omega | exact hb _ | (simp (disch := omega) only [pun_n, pun_s, pLog_o]; first | omega | (apply pLog_le; simp (disch := omega) only [pun_n]; omega))) only [pl_0, pl_1, pl_2, pl_3, pl_4, pl_5, pl_6, pl_7, pl_8, pl_9, pl_10, pl_11, pl_12, pl_13, pl_25, pl_30, pl_36, pl_50, pl_60, pl_98, pl_99, pl_100, pl_102, pl_104, pl_105, pl_108, pl_111, pl_112, pl_116, pl_119, pl_166, pl_199, pl_202, pl_239, pl_240, pl_480, pl_999, pl_1000, puN_g, puN_p, puN_pt, px_thr0, px_thr1, px_qthr0, px_qthr1, nI_add, pn_mul, pn_c, pn_le, pn_lt, pn_eq, px_of, px_sets, px_ofh, px_seth, px_qof, px_qsets, px_qofh, px_qseth, pun_s, pun_n, ↓reduceIte, px_rings, px_hap, px_qhap, pLog_o, pun_pun, g1, g2, g2q, g3, (w2 _ _).1, (w2 _ _).2]
      simp
    · unfold f_X9_codes
      simp (disch := first | omega | exact hb _ | (simp (disch := omega) only [pun_n, pun_s, pLog_o]; first | omega | (apply pLog_le; simp (disch := omega) only [pun_n]; omega))) only [pl_0, pl_1, pl_2, pl_3, pl_4, pl_5, pl_6, pl_7, pl_8, pl_9, pl_10, pl_11, pl_12, pl_13, pl_25, pl_30, pl_36, pl_50, pl_60, pl_98, pl_99, pl_100, pl_102, pl_104, pl_105, pl_108, pl_111, pl_112, pl_116, pl_119, pl_166, pl_199, pl_202, pl_239, pl_240, pl_480, pl_999, pl_1000, puN_g, puN_p, puN_pt, px_thr0, px_thr1, px_qthr0, px_qthr1, nI_add, pn_mul, pn_c, pn_le, pn_lt, pn_eq, px_of, px_sets, px_ofh, px_seth, px_qof, px_qsets, px_qofh, px_qseth, pun_s, pun_n, ↓reduceIte, px_rings, px_hap, px_qhap, pLog_o, pun_pun, g1, g2, g3, (w2 _ _).2]
      simp
    · exact (pOk_code w3 (by simp (disch := omega) only [pun_n]; exact hh9) hn).up (by omega) hB
  · obtain ⟨c', s', w1, w2, w3, wX, wA⟩ := pHear hR (by omega) hh9
    refine Or.inr (Or.inr ⟨?_, c', l, s', w1 _ _, ?_, ?_, w3.up (by omega) hB, wX, wA⟩)
    · simp only [f_X6_refusalOfCode, k1, k2, k3, pc_code M b l c20 s9 hh9, z0, hcode, ↓reduceIte]
      simp
    · unfold q_X9_codes
      simp (disch := first | omega | exact hb _ | (simp (disch := omega) only [pun_n, pun_s, pLog_o]; first | omega | (apply pLog_le; simp (disch := omega) only [pun_n]; omega))) only [pl_0, pl_1, pl_2, pl_3, pl_4, pl_5, pl_6, pl_7, pl_8, pl_9, pl_10, pl_11, pl_12, pl_13, pl_25, pl_30, pl_36, pl_50, pl_60, pl_98, pl_99, pl_100, pl_102, pl_104, pl_105, pl_108, pl_111, pl_112, pl_116, pl_119, pl_166, pl_199, pl_202, pl_239, pl_240, pl_480, pl_999, pl_1000, puN_g, puN_p, puN_pt, px_thr0, px_thr1, px_qthr0, px_qthr1, nI_add, pn_mul, pn_c, pn_le, pn_lt, pn_eq, px_of, px_sets, px_ofh, px_seth, px_qof, px_qsets, px_qofh, px_qseth, pun_s, pun_n, ↓reduceIte, px_rings, px_hap, px_qhap, pLog_o, pun_pun, g1, g2, g2q, g3, (w2 _ _ _ hcode).1, (w2 _ _ _ hcode).2]
      simp
    · unfold f_X9_codes
      simp (disch := first | omega | exact hb _ | (simp (disch := omega) only [pun_n, pun_s, pLog_o]; first | omega | (apply pLog_le; simp (disch := omega) only [pun_n]; omega))) only [pl_0, pl_1, pl_2, pl_3, pl_4, pl_5, pl_6, pl_7, pl_8, pl_9, pl_10, pl_11, pl_12, pl_13, pl_25, pl_30, pl_36, pl_50, pl_60, pl_98, pl_99, pl_100, pl_102, pl_104, pl_105, pl_108, pl_111, pl_112, pl_116, pl_119, pl_166, pl_199, pl_202, pl_239, pl_240, pl_480, pl_999, pl_1000, puN_g, puN_p, puN_pt, px_thr0, px_thr1, px_qthr0, px_qthr1, nI_add, pn_mul, pn_c, pn_le, pn_lt, pn_eq, px_of, px_sets, px_ofh, px_seth, px_qof, px_qsets, px_qofh, px_qseth, pun_s, pun_n, ↓reduceIte, px_rings, px_hap, px_qhap, pLog_o, pun_pun, g1, g2, g3, (w2 _ _ _ hcode).2]
      simp

