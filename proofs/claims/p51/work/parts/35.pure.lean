/-! ===== tide ===== -/
theorem pSim_tides {B : Nat} {c : Nat → Nat → Int32} {l : Int64} {s : Nat → Nat} (b : Nat) (hR : pOk B c l s) (hB : B + 240 ≤ 10000000) (x1 x2 : Int32) : pSim B c l s b (fun m => f_X6_refusalOfTide m b x1 x2) (fun m => f_X7_become m b x1 x2) (fun m => m) (fun m => f_X9_tides m x1 x2) (fun _ => True) [(2, 1)] True 0 := by
  intro M M1 M' t
  obtain ⟨⟨hb, hs, hh, hx, he, hsum⟩, ⟨hc, hch, hcx, hcl⟩⟩ := id hR
  have hs' := hs
  obtain ⟨s0, s1, s2, s3, s45, s67, s8, s9, s10, s11, sB⟩ := hs
  have hc' := hc
  obtain ⟨c04, c05, c06, c07, cl, c10, c11, c20, c60⟩ := hc
  by_cases hbad : x1 < 60 ∨ 480 < x1 ∨ x2 < 10 ∨ x1 < x2
  · refine Or.inr (Or.inl ⟨(2, 1), by simp, ?_, ?_⟩)
    · show f_X6_refusalOfTide _ _ _ _ = 2
      unfold f_X6_refusalOfTide
      repeat' split
      all_goals first | rfl | (exfalso; rcases hbad with h | h | h | h <;> contradiction)
    · by_cases ha : x1 < 60 ∨ 480 < x1
      · have hin : ∀ m, f_X9_isIn m x1 60 480 = 0 := fun m => px_inB m ha
        unfold f_X9_tides
        simp only [hin]
        simp (disch := first | omega | exact hb _) only [pl_0, pl_1, pl_2, pl_3, pl_4, pl_5, pl_6, pl_7, pl_8, pl_9, pl_10, pl_11, pl_12, pl_13, pl_25, pl_30, pl_36, pl_50, pl_60, pl_98, pl_99, pl_100, pl_102, pl_104, pl_105, pl_108, pl_111, pl_112, pl_116, pl_119, pl_166, pl_199, pl_202, pl_239, pl_240, pl_480, pl_999, pl_1000, puN_g, puN_p, puN_pt, px_thr0, px_thr1, px_qthr0, px_qthr1, nI_add, pn_mul, pn_c, pn_le, pn_lt, pn_eq, px_of, px_sets, px_ofh, px_seth, px_qof, px_qsets, px_qofh, px_qseth, pun_s, pun_n, ↓reduceIte]
        simp
      · have hin : ∀ m, f_X9_isIn m x2 10 x1 = 0 := fun m => px_inB m (by
          rcases hbad with h | h | h | h
          · exact absurd (Or.inl h) ha
          · exact absurd (Or.inr h) ha
          · exact Or.inl h
          · exact Or.inr h)
        have hin1 : ∀ m, f_X9_isIn m x1 60 480 = nI 1 := by
          intro m
          unfold f_X9_isIn
          rw [if_neg (fun h => ha (Or.inl h)), if_neg (fun h => ha (Or.inr h))]; rfl
        unfold f_X9_tides
        simp only [hin, hin1]
        simp (disch := first | omega | exact hb _) only [pl_0, pl_1, pl_2, pl_3, pl_4, pl_5, pl_6, pl_7, pl_8, pl_9, pl_10, pl_11, pl_12, pl_13, pl_25, pl_30, pl_36, pl_50, pl_60, pl_98, pl_99, pl_100, pl_102, pl_104, pl_105, pl_108, pl_111, pl_112, pl_116, pl_119, pl_166, pl_199, pl_202, pl_239, pl_240, pl_480, pl_999, pl_1000, puN_g, puN_p, puN_pt, px_thr0, px_thr1, px_qthr0, px_qthr1, nI_add, pn_mul, pn_c, pn_le, pn_lt, pn_eq, px_of, px_sets, px_ofh, px_seth, px_qof, px_qsets, px_qofh, px_qseth, pun_s, pun_n, ↓reduceIte]
        simp
  · obtain ⟨p, hp, rfl⟩ : ∃ p : Nat, p < 2147483648 ∧ x1 = nI p := pn_nneg (fun h => hbad (Or.inl (by
      rw [Int32.lt_iff_toInt_lt] at h ⊢
      have : (0 : Int32).toInt = 0 := by decide
      have : (60 : Int32).toInt = 60 := by decide
      omega)))
    obtain ⟨q, hq, rfl⟩ : ∃ q : Nat, q < 2147483648 ∧ x2 = nI q := pn_nneg (fun h => hbad (Or.inr (Or.inr (Or.inl (by
      rw [Int32.lt_iff_toInt_lt] at h ⊢
      have : (0 : Int32).toInt = 0 := by decide
      have : (10 : Int32).toInt = 10 := by decide
      omega)))))
    have hn : 60 ≤ p ∧ p ≤ 480 ∧ 10 ≤ q ∧ q ≤ p := by
      rw [pl_60, pl_480, pl_10, pn_lt hp (by omega), pn_lt (by omega) hp, pn_lt hq (by omega), pn_lt hp hq] at hbad
      omega
    have hin1 : ∀ m, f_X9_isIn m (nI p) 60 480 = nI 1 := fun m => px_in1 (lo := 60) (hi := 480) m hn.1 hn.2.1 (by omega)
    have hin2 : ∀ m, f_X9_isIn m (nI q) 10 (nI p) = nI 1 := fun m => px_in1 (lo := 10) (hi := p) m hn.2.2.1 hn.2.2.2 (by omega)
    refine Or.inl ⟨?_, s 1, tvU (tvU c 1 0 (nI p)) 1 1 (nI q), l, pun (pun s 1 p) 2 q, by omega, ?_, ?_, ?_, ?_, fun _ z hX => pXi_lo q (by omega) (by omega) (pXi_lo p (by omega) (by omega) hX), Nat.zero_le _⟩
    · show f_X6_refusalOfTide _ _ _ _ = 0
      unfold f_X6_refusalOfTide
      repeat' split
      all_goals first | rfl | (exfalso; exact hbad (by first | exact Or.inl (by assumption) | exact Or.inr (Or.inl (by assumption)) | exact Or.inr (Or.inr (Or.inl (by assumption))) | exact Or.inr (Or.inr (Or.inr (by assumption)))))
    · simp only [f_X7_become, puC_g1, puC_p1, c10]
    · trivial
    · unfold f_X9_tides
      simp only [hin1, hin2]
      simp (disch := first | omega | exact hb _) only [pl_0, pl_1, pl_2, pl_3, pl_4, pl_5, pl_6, pl_7, pl_8, pl_9, pl_10, pl_11, pl_12, pl_13, pl_25, pl_30, pl_36, pl_50, pl_60, pl_98, pl_99, pl_100, pl_102, pl_104, pl_105, pl_108, pl_111, pl_112, pl_116, pl_119, pl_166, pl_199, pl_202, pl_239, pl_240, pl_480, pl_999, pl_1000, puN_g, puN_p, puN_pt, px_thr0, px_thr1, px_qthr0, px_qthr1, nI_add, pn_mul, pn_c, pn_le, pn_lt, pn_eq, px_of, px_sets, px_ofh, px_seth, px_qof, px_qsets, px_qofh, px_qseth, pun_s, pun_n, ↓reduceIte]
      simp
    · refine pOk_sc hR (pun_b (pun_b hb _ _ hp) _ _ hq) ?_ (by simp (disch := omega) only [pun_n]; omega) (fun k hk => by simp (disch := omega) only [pun_n]) (fun p k hp => by simp (disch := omega) only [pcu_r]) ?_
      · have := hs'.up (B' := B + 240) (by omega) hB
        unfold pRs at this ⊢
        simp (disch := omega) only [pun_s, pun_n]
        omega
      · unfold pCs
        simp (disch := omega) only [pun_n, pun_s, pcu_r, pcu_k, pcu_s, true_and]
        exact ⟨c04, c05, c06, c07, cl, c20, c60⟩
/-! ===== a box ===== -/
theorem pSim_boxed {B : Nat} {c : Nat → Nat → Int32} {l : Int64} {s : Nat → Nat} (b : Nat) (hR : pOk B c l s) (hB : B + 240 ≤ 10000000) (x1 x2 x3 : Int32) : pSim B c l s b (fun m => f_X6_refusalOfBox m b x1 x2 x3) (fun m => f_X0_add m b x1 x2 x3) (fun m => m) (fun m => f_X9_boxed m x1 x2 x3) (fun m => q_X9_boxed m x1 x2 x3) [(1, 1), (2, 2), (3, 3)] True 0 := by
  intro M M1 M' t
  obtain ⟨⟨hb, hs, hh, hx, he, hsum⟩, ⟨hc, hch, hcx, hcl⟩⟩ := id hR
  have hs' := hs
  obtain ⟨s0, s1, s2, s3, s45, s67, s8, s9, s10, s11, sB⟩ := hs
  have hc' := hc
  obtain ⟨c04, c05, c06, c07, cl, c10, c11, c20, c60⟩ := hc
  by_cases h1 : ∃ i, i < s 9 ∧ x1 = nI i
  case neg =>
    have g1 : ∀ t, f_X9_isHolder (puN M' s t) x1 = nI 0 := fun t => px_hol0 M' s t x1 s9 h1
    refine Or.inr (Or.inl ⟨(1, 1), by simp, ?_, ?_⟩)
    · simp only [f_X6_refusalOfBox, pc_hh0 M b l c20 s9 h1, ↓reduceIte]
    · unfold q_X9_boxed f_X9_boxed
      simp only [g1]
      simp (disch := first | omega | exact hb _) only [pl_0, pl_1, pl_2, pl_3, pl_4, pl_5, pl_6, pl_7, pl_8, pl_9, pl_10, pl_11, pl_12, pl_13, pl_25, pl_30, pl_36, pl_50, pl_60, pl_98, pl_99, pl_100, pl_102, pl_104, pl_105, pl_108, pl_111, pl_112, pl_116, pl_119, pl_166, pl_199, pl_202, pl_239, pl_240, pl_480, pl_999, pl_1000, puN_g, puN_p, puN_pt, px_thr0, px_thr1, px_qthr0, px_qthr1, nI_add, pn_mul, pn_c, pn_le, pn_lt, pn_eq, px_of, px_sets, px_ofh, px_seth, px_qof, px_qsets, px_qofh, px_qseth, pun_s, pun_n, ↓reduceIte]
      simp
  by_cases h2 : ∃ i, i < s 9 ∧ x2 = nI i
  case neg =>
    obtain ⟨i1, hi1, rfl⟩ := h1
    have g1 : ∀ t, f_X9_isHolder (puN M' s t) (nI i1) = nI 1 := fun t => px_hol1 M' s t s9 hi1
    have g2 : ∀ t, f_X9_isHolder (puN M' s t) x2 = nI 0 := fun t => px_hol0 M' s t x2 s9 h2
    refine Or.inr (Or.inl ⟨(1, 1), by simp, ?_, ?_⟩)
    · simp only [f_X6_refusalOfBox, pc_hh1 M b l c20 s9 hi1, pc_hh0 M b l c20 s9 h2, ↓reduceIte]
      decide
    · unfold q_X9_boxed f_X9_boxed
      simp only [g1, g2]
      simp (disch := first | omega | exact hb _) only [pl_0, pl_1, pl_2, pl_3, pl_4, pl_5, pl_6, pl_7, pl_8, pl_9, pl_10, pl_11, pl_12, pl_13, pl_25, pl_30, pl_36, pl_50, pl_60, pl_98, pl_99, pl_100, pl_102, pl_104, pl_105, pl_108, pl_111, pl_112, pl_116, pl_119, pl_166, pl_199, pl_202, pl_239, pl_240, pl_480, pl_999, pl_1000, puN_g, puN_p, puN_pt, px_thr0, px_thr1, px_qthr0, px_qthr1, nI_add, pn_mul, pn_c, pn_le, pn_lt, pn_eq, px_of, px_sets, px_ofh, px_seth, px_qof, px_qsets, px_qofh, px_qseth, pun_s, pun_n, ↓reduceIte]
      simp
  obtain ⟨i1, hi1, rfl⟩ := h1
  obtain ⟨i2, hi2, rfl⟩ := h2
  have g1 : ∀ t, f_X9_isHolder (puN M' s t) (nI i1) = nI 1 := fun t => px_hol1 M' s t s9 hi1
  have g2 : ∀ t, f_X9_isHolder (puN M' s t) (nI i2) = nI 1 := fun t => px_hol1 M' s t s9 hi2
  have k1 := pc_hh1 M b l c20 s9 hi1
  have k2 := pc_hh1 M b l c20 s9 hi2
  by_cases he12 : i1 = i2
  · subst he12
    refine Or.inr (Or.inl ⟨(2, 2), by simp, ?_, ?_⟩)
    · simp only [f_X6_refusalOfBox, k1, ↓reduceIte]
      decide
    · unfold q_X9_boxed f_X9_boxed
      simp only [g1, g2]
      simp (disch := first | omega | exact hb _) only [pl_0, pl_1, pl_2, pl_3, pl_4, pl_5, pl_6, pl_7, pl_8, pl_9, pl_10, pl_11, pl_12, pl_13, pl_25, pl_30, pl_36, pl_50, pl_60, pl_98, pl_99, pl_100, pl_102, pl_104, pl_105, pl_108, pl_111, pl_112, pl_116, pl_119, pl_166, pl_199, pl_202, pl_239, pl_240, pl_480, pl_999, pl_1000, puN_g, puN_p, puN_pt, px_thr0, px_thr1, px_qthr0, px_qthr1, nI_add, pn_mul, pn_c, pn_le, pn_lt, pn_eq, px_of, px_sets, px_ofh, px_seth, px_qof, px_qsets, px_qofh, px_qseth, pun_s, pun_n, ↓reduceIte]
      simp
  have hne : ¬ nI i1 = nI i2 := by rw [pn_eq (by omega) (by omega)]; exact he12
  by_cases h3 : x3 < 0 ∨ 60 < x3
  · have g3 : ∀ m, f_X9_isIn m x3 0 60 = 0 := fun m => px_inB m h3
    refine Or.inr (Or.inl ⟨(2, 2), by simp, ?_, ?_⟩)
    · show f_X6_refusalOfBox _ _ _ _ _ = 2
      unfold f_X6_refusalOfBox
      rw [k1, k2, if_neg (by decide), if_neg (by decide), if_neg hne]
      by_cases q : x3 < 0
      · rw [if_pos q]
      · rw [if_neg q, if_neg]
        intro r
        have := h3.resolve_left q
        rw [Int32.le_iff_toInt_le] at r
        rw [Int32.lt_iff_toInt_lt] at this
        omega
    · unfold q_X9_boxed f_X9_boxed
      simp only [g1, g2, g3]
      simp (disch := first | omega | exact hb _) only [pl_0, pl_1, pl_2, pl_3, pl_4, pl_5, pl_6, pl_7, pl_8, pl_9, pl_10, pl_11, pl_12, pl_13, pl_25, pl_30, pl_36, pl_50, pl_60, pl_98, pl_99, pl_100, pl_102, pl_104, pl_105, pl_108, pl_111, pl_112, pl_116, pl_119, pl_166, pl_199, pl_202, pl_239, pl_240, pl_480, pl_999, pl_1000, puN_g, puN_p, puN_pt, px_thr0, px_thr1, px_qthr0, px_qthr1, nI_add, pn_mul, pn_c, pn_le, pn_lt, pn_eq, px_of, px_sets, px_ofh, px_seth, px_qof, px_qsets, px_qofh, px_qseth, pun_s, pun_n, ↓reduceIte]
      simp [he12]
  · obtain ⟨d, hd, rfl⟩ : ∃ d : Nat, d ≤ 60 ∧ x3 = nI d := by
      obtain ⟨d, hd, rfl⟩ := pn_nneg (fun q => h3 (Or.inl q))
      refine ⟨d, ?_, rfl⟩
      have : ¬ (60 : Int32) < nI d := fun q => h3 (Or.inr q)
      rw [pl_60, pn_lt (by omega) (by omega)] at this
      omega
    have g3 : ∀ m, f_X9_isIn m (nI d) 0 60 = nI 1 := fun m => px_in1 (lo := 0) (hi := 60) m (by omega) hd (by omega)
    have k3 : nI d ≤ 60 := by rw [pl_60, pn_le (by omega) (by omega)]; exact hd
    by_cases h10 : s 10 = 10
    · refine Or.inr (Or.inl ⟨(3, 3), by simp, ?_, ?_⟩)
      · show f_X6_refusalOfBox _ _ _ _ _ = 3
        unfold f_X6_refusalOfBox
        rw [k1, k2, if_neg (by decide), if_neg (by decide), if_neg hne, if_neg (pn_neg (by omega)), if_pos k3, puC_g6, c60, h10]
        decide
      · unfold q_X9_boxed f_X9_boxed
        simp only [g1, g2, g3]
        simp (disch := first | omega | exact hb _) only [pl_0, pl_1, pl_2, pl_3, pl_4, pl_5, pl_6, pl_7, pl_8, pl_9, pl_10, pl_11, pl_12, pl_13, pl_25, pl_30, pl_36, pl_50, pl_60, pl_98, pl_99, pl_100, pl_102, pl_104, pl_105, pl_108, pl_111, pl_112, pl_116, pl_119, pl_166, pl_199, pl_202, pl_239, pl_240, pl_480, pl_999, pl_1000, puN_g, puN_p, puN_pt, px_thr0, px_thr1, px_qthr0, px_qthr1, nI_add, pn_mul, pn_c, pn_le, pn_lt, pn_eq, px_of, px_sets, px_ofh, px_seth, px_qof, px_qsets, px_qofh, px_qseth, pun_s, pun_n, ↓reduceIte, h10]
        simp [he12]
    · refine Or.inl ⟨?_, s 10, tvU (tvU (tvU (tvU (tvU (tvU (tvU (tvU (tvU c 7 (s 10) (nI i1)) 8 (s 10) (nI i2)) 9 (s 10) (nI d)) 10 (s 10) 99) 11 (s 10) (-1)) 12 (s 10) 0) 13 (s 10) 0) 14 (s 10) 0) 6 0 (nI (s 10 + 1)), l, pun (pun (pun (pun s (36 + 13 * s 10 + 0) i1) (36 + 13 * s 10 + 1) i2) (36 + 13 * s 10 + 2) d) 10 (s 10 + 1), by omega, ?_, ?_, ?_, ?_, fun _ z hX => pXi_box (by omega) hi1 hi2 he12 (by have := ((hx (s 10) (by omega)).2.2.2.2.2.2 (Nat.le_refl _)).1; omega) hX, Nat.zero_le _⟩
      · show f_X6_refusalOfBox _ _ _ _ _ = 0
        unfold f_X6_refusalOfBox
        rw [k1, k2, if_neg (by decide), if_neg (by decide), if_neg hne, if_neg (pn_neg (by omega)), if_pos k3, puC_g6, c60, if_pos]
        rw [pl_10, pn_lt (by omega) (by omega)]
        omega
      · simp only [f_X0_add, puC_g6, c60]
        rw [if_neg (pn_neg (by omega)), if_pos (by rw [pl_10, pn_lt (by omega) (by omega)]; omega), pn_c (by omega)]
        simp (disch := omega) only [puC_p7, puC_p8, puC_p9, puC_p10, puC_p11, puC_p12, puC_p13, puC_p14, puC_p6, puC_g6, pcu_r, c60, nI_1]
      · unfold q_X9_boxed
        simp only [g1, g2, g3]
        simp (disch := first | omega | exact hb _) only [pl_0, pl_1, pl_2, pl_3, pl_4, pl_5, pl_6, pl_7, pl_8, pl_9, pl_10, pl_11, pl_12, pl_13, pl_25, pl_30, pl_36, pl_50, pl_60, pl_98, pl_99, pl_100, pl_102, pl_104, pl_105, pl_108, pl_111, pl_112, pl_116, pl_119, pl_166, pl_199, pl_202, pl_239, pl_240, pl_480, pl_999, pl_1000, puN_g, puN_p, puN_pt, px_thr0, px_thr1, px_qthr0, px_qthr1, nI_add, pn_mul, pn_c, pn_le, pn_lt, pn_eq, px_of, px_sets, px_ofh, px_seth, px_qof, px_qsets, px_qofh, px_qseth, pun_s, pun_n, ↓reduceIte]
        simp [he12, h10]
      · unfold f_X9_boxed
        simp only [g1, g2, g3]
        simp (disch := first | omega | exact hb _) only [pl_0, pl_1, pl_2, pl_3, pl_4, pl_5, pl_6, pl_7, pl_8, pl_9, pl_10, pl_11, pl_12, pl_13, pl_25, pl_30, pl_36, pl_50, pl_60, pl_98, pl_99, pl_100, pl_102, pl_104, pl_105, pl_108, pl_111, pl_112, pl_116, pl_119, pl_166, pl_199, pl_202, pl_239, pl_240, pl_480, pl_999, pl_1000, puN_g, puN_p, puN_pt, px_thr0, px_thr1, px_qthr0, px_qthr1, nI_add, pn_mul, pn_c, pn_le, pn_lt, pn_eq, px_of, px_sets, px_ofh, px_seth, px_qof, px_qsets, px_qofh, px_qseth, pun_s, pun_n, ↓reduceIte]
        simp [he12, h10]
      · have hx10 := hx (s 10) (by omega)
        refine ⟨⟨pun_b (pun_b (pun_b (pun_b hb _ _ (by omega)) _ _ (by omega)) _ _ (by omega)) _ _ (by omega), ?_, ?_, ?_, ?_, ?_⟩, ⟨?_, ?_, ?_, ?_⟩⟩
        · have := hs'.up (B' := B + 240) (by omega) hB
          unfold pRs at this ⊢
          simp (disch := omega) only [pun_s, pun_n]
          omega
        · exact fun h h1 => pRh_c (by simp (disch := omega) only [pun_n]; omega) (by simp (disch := omega) only [pun_n]; omega) (by simp (disch := omega) only [pun_n]) (by simp (disch := omega) only [pun_n]) (hh h h1)
        · intro i hi
          by_cases e : i = s 10
          · subst e
            unfold pRx at hx10 ⊢
            simp (disch := omega) only [pun_s, pun_n]
            obtain ⟨a1, a2, a3, a4, a5, a6, a7⟩ := hx10
            exact ⟨hd, a2, a3, a4, a5, a6, fun _ => a7 (Nat.le_refl _)⟩
          · exact pRx_c (by simp (disch := omega) only [pun_n]; omega) (by simp (disch := omega) only [pun_s]; omega) (fun w _ _ => by simp (disch := omega) only [pun_n]) (hx i hi)
        · exact fun e h1 => pRe_c (fun k hk => by simp (disch := omega) only [pun_n]) (he e h1)
        · have h7 := (hx10.2.2.2.2.2.2 (Nat.le_refl _)).2
          have hw : ∀ i, i < s 10 + 1 → pWo (pun (pun (pun (pun s (36 + 13 * s 10 + 0) i1) (36 + 13 * s 10 + 1) i2) (36 + 13 * s 10 + 2) d) 10 (s 10 + 1)) i = pWo s i := by
            intro i hi
            have := (hx i (by omega)).2.2.2.2.1
            exact pWo_c (by simp (disch := omega) only [pun_n]) (fun j hj => by simp (disch := omega) only [pun_n])
          unfold pSu
          simp (disch := omega) only [pun_s, pun_n]
          rw [psm_c hw]
          have h0 : pWo s (s 10) = 0 := by
            unfold pWo
            rw [h7]; rfl
          show s 6 = s 7 + (psm (pWo s) (s 10) + pWo s (s 10))
          rw [h0]
          exact hsum
        · unfold pCs
          simp (disch := omega) only [pun_n, pun_s, pcu_r, pcu_k, pcu_s, and_true]
          exact ⟨c04, c05, c06, c07, cl, c10, c11, c20⟩
        · intro h h1
          rw [pun_n _ _ (by omega), pun_n _ _ (by omega), pun_n _ _ (by omega), pun_n _ _ (by omega)] at h1
          exact pCh_c (fun p h1 h2 => by simp (disch := omega) only [pcu_r]) (fun w hw => by simp (disch := omega) only [pun_n]) (hch h h1)
        · intro i hi
          rw [pun_s] at hi
          by_cases e : i = s 10
          · subst e
            have h3 := (hx10.2.2.2.2.2.2 (Nat.le_refl _)).1
            have h7 := (hx10.2.2.2.2.2.2 (Nat.le_refl _)).2
            unfold pCx
            simp (disch := omega) only [pun_n, pun_s, pcu_r, pcu_s, h3, h7]
            refine ⟨trivial, trivial, trivial, rfl, fun q => by omega, fun q => by omega, fun q => by omega, rfl, fun j hj => by omega⟩
          · refine pCx_c (hx i (by omega)).2.2.2.2.1 (fun p h1 h2 => ?_) (fun j hj => by simp (disch := omega) only [pcu_r]) (fun w hw => by simp (disch := omega) only [pun_n]) (hcx i (by omega))
            rcases (show p = 7 ∨ p = 8 ∨ p = 9 ∨ p = 10 ∨ p = 11 ∨ p = 12 ∨ p = 13 ∨ p = 14 by omega) with rfl | rfl | rfl | rfl | rfl | rfl | rfl | rfl <;> simp (disch := omega) only [pcu_r, pcu_k]
        · exact pCl_c (fun p k h1 h2 => by simp (disch := omega) only [pcu_r]) (by simp (disch := omega) only [pun_n]) (fun k hk => by simp (disch := omega) only [pun_n]) hcl

