/-! ===== opening ===== -/
/-- the model's row when box i opens -/
def pOpR (s : Nat → Nat) (i : Nat) : Nat → Nat := pLog (pun (pun (pun s (36 + 13 * i + 3) 3) (36 + 13 * i + 5) (s 0)) 8 (s 8 + 1)) 111 i
theorem pXi_opR {z : Nat × Nat} {s : Nat → Nat} {i : Nat} (hi : i < 10) (h11 : s 11 ≤ 12) (hX : pXi z s) : pXi z (pOpR s i) :=
  pXi_log _ _ (by first | (simp (disch := omega) only [pun_n]; omega) | (simp (disch := omega) only [pun_n]; apply pLog_le; simp (disch := omega) only [pun_n]; omega)) (pXi_lo _ (by omega) (by omega) (pXi_bw (w := 5) _ hi (by omega) (by omega) (pXi_st hi (by decide) hX)))
theorem pOpen {B : Nat} {c : Nat → Nat → Int32} {l : Int64} {s : Nat → Nat} {i : Nat} (hR : pOk B c l s) (hi : i < s 10) (h8 : s 8 + 1 ≤ 10 * B) (h2 : s (36 + 13 * i + 3) = 2) (h0 : s (36 + 13 * i + 6) = 0) : ∃ (c' : Nat → Nat → Int32) (s' : Nat → Nat), (∀ M b, f_X6_openIfDue (puC M b c l) b (nI i) = (nI 1, puC M b c' l)) ∧ (∀ M' t, q_X9_opens (puN M' s t) (nI i) ∧ f_X9_opens (puN M' s t) (nI i) = puN M' s' t) ∧ pOk B c' l s' ∧ (∀ k, k < 36 → k ≠ 11 → k ≠ 8 → s' k = s k) ∧ s' 8 = s 8 + 1 ∧ (∀ k, 36 ≤ k → k < 166 → (∀ w, 3 ≤ w → w < 7 → k ≠ 36 + 13 * i + w) → s' k = s k) ∧ s' (36 + 13 * i + 3) = 3 ∧ s' (36 + 13 * i + 5) = s 0 ∧ s' = pOpR s i := by
  obtain ⟨⟨hb, hs, hh, hx, he, hsum⟩, ⟨hc, hch, hcx, hcl⟩⟩ := id hR
  have hs' := hs
  obtain ⟨s0, s1, s2, s3, s45, s67, s8, s9, s10, s11, sB⟩ := hs
  have hc' := hc
  obtain ⟨c04, c05, c06, c07, cl, c10, c11, c20, c60⟩ := hc
  have h6 := hR.six hi
  have r1 := pOk_open0 hR hi
  have r2 := pOk_opened r1 (by simp (disch := omega) only [pun_n]; omega)
  obtain ⟨c3, k3, g3, r3⟩ := pOk_log r2 (kd := 111) (n := i) (by omega) (by omega)
  simp (disch := omega) only [pun_n, pl_111] at g3
  have f0 : ∀ M b, f_X0_statusOf (puC M b c l) b (nI i) = nI 112 := fun M b => by rw [hR.st hi, h2]; rfl
  have f1 : ∀ M b, f_X0_remainingOf (puC M b c l) b (nI i) = nI 0 := fun M b => by rw [pc_rem M b l c60 s10 hi, (hcx i hi).2.2.2.2.2.2.1 h2, h0]
  have f2 : ∀ M b v, f_X0_become (puC M b c l) b (nI 111) (nI i) v = puC M b (tvU (tvU c 10 i 111) 13 i v) l := fun M b v => pc_become M b l c60 s10 hi 111 v
  refine ⟨_, _, fun M b => ?_, fun M' t => ⟨?_, ?_⟩, r3, fun k h1 h3 h4 => ?_, ?_, fun k h1 h3 hk => ?_, ?_, ?_, by unfold pOpR; simp (disch := omega) only [pun_n]⟩
  · unfold f_X6_openIfDue
    simp (disch := omega) only [pl_0, pl_1, pl_2, pl_3, pl_4, pl_5, pl_6, pl_7, pl_8, pl_9, pl_10, pl_11, pl_12, pl_13, pl_25, pl_30, pl_36, pl_50, pl_60, pl_98, pl_99, pl_100, pl_102, pl_104, pl_105, pl_108, pl_111, pl_112, pl_116, pl_119, pl_166, pl_199, pl_202, pl_239, pl_240, pl_480, pl_999, pl_1000, f0, f1, f2, puC_g0, c04, pcu_r, g3, ↓reduceIte]
  · unfold q_X9_opens
    simp (disch := first | omega | exact hb _ | (simp (disch := omega) only [pun_n, pun_s, pLog_o]; first | omega | (apply pLog_le; simp (disch := omega) only [pun_n]; omega))) only [pl_0, pl_1, pl_2, pl_3, pl_4, pl_5, pl_6, pl_7, pl_8, pl_9, pl_10, pl_11, pl_12, pl_13, pl_25, pl_30, pl_36, pl_50, pl_60, pl_98, pl_99, pl_100, pl_102, pl_104, pl_105, pl_108, pl_111, pl_112, pl_116, pl_119, pl_166, pl_199, pl_202, pl_239, pl_240, pl_480, pl_999, pl_1000, puN_g, puN_p, puN_pt, px_thr0, px_thr1, px_qthr0, px_qthr1, nI_add, pn_mul, pn_c, pn_le, pn_lt, pn_eq, px_of, px_sets, px_ofh, px_seth, px_qof, px_qsets, px_qofh, px_qseth, pun_s, pun_n, ↓reduceIte, px_rings, px_hap, px_qhap, pLog_o, pun_pun]
    simp
  · unfold f_X9_opens
    simp (disch := first | omega | exact hb _ | (simp (disch := omega) only [pun_n, pun_s, pLog_o]; first | omega | (apply pLog_le; simp (disch := omega) only [pun_n]; omega))) only [pl_0, pl_1, pl_2, pl_3, pl_4, pl_5, pl_6, pl_7, pl_8, pl_9, pl_10, pl_11, pl_12, pl_13, pl_25, pl_30, pl_36, pl_50, pl_60, pl_98, pl_99, pl_100, pl_102, pl_104, pl_105, pl_108, pl_111, pl_112, pl_116, pl_119, pl_166, pl_199, pl_202, pl_239, pl_240, pl_480, pl_999, pl_1000, puN_g, puN_p, puN_pt, px_thr0, px_thr1, px_qthr0, px_qthr1, nI_add, pn_mul, pn_c, pn_le, pn_lt, pn_eq, px_of, px_sets, px_ofh, px_seth, px_qof, px_qsets, px_qofh, px_qseth, pun_s, pun_n, ↓reduceIte, px_rings, px_hap, px_qhap, pLog_o, pun_pun]
  · simp (disch := omega) only [pun_n, pLog_o]
  · simp (disch := omega) only [pun_n, pun_s, pLog_o]
  · have k3 := hk 3 (by omega) (by omega)
    have k5 := hk 5 (by omega) (by omega)
    simp (disch := omega) only [pun_n, pLog_o]
  · simp (disch := omega) only [pun_n, pun_s, pLog_o]
  · simp (disch := omega) only [pun_n, pun_s, pLog_o]
theorem pOk.low {B : Nat} {c : Nat → Nat → Int32} {l : Int64} {s : Nat → Nat} (hR : pOk B c l s) (M : tvM) (b : Nat) : f_X6_isLow (puC M b c l) b = if s 0 % s 1 < s 2 then 1 else 0 := by
  obtain ⟨⟨hb, hs, hh, hx, he, hsum⟩, ⟨hc, hch, hcx, hcl⟩⟩ := id hR
  have hs' := hs
  obtain ⟨s0, s1, s2, s3, s45, s67, s8, s9, s10, s11, sB⟩ := hs
  have hc' := hc
  obtain ⟨c04, c05, c06, c07, cl, c10, c11, c20, c60⟩ := hc
  exact pc_isLow M b l c04 c10 c11 (hb _) (by omega) (hb _) (hb _)
theorem pOpen_no {B : Nat} {c : Nat → Nat → Int32} {l : Int64} {s : Nat → Nat} {i : Nat} (hR : pOk B c l s) (hi : i < s 10) (h : ¬ (s (36 + 13 * i + 3) = 2 ∧ s (36 + 13 * i + 6) = 0)) (M : tvM) (b : Nat) : f_X6_openIfDue (puC M b c l) b (nI i) = (nI 0, puC M b c l) := by
  obtain ⟨⟨hb, hs, hh, hx, he, hsum⟩, ⟨hc, hch, hcx, hcl⟩⟩ := id hR
  have hs' := hs
  obtain ⟨s0, s1, s2, s3, s45, s67, s8, s9, s10, s11, sB⟩ := hs
  have hc' := hc
  obtain ⟨c04, c05, c06, c07, cl, c10, c11, c20, c60⟩ := hc
  have h6 := hR.six hi
  unfold f_X6_openIfDue
  rw [hR.st hi]
  by_cases q : s (36 + 13 * i + 3) = 2
  · rw [if_pos ((pSt_eq _ h6.1).2.2.1.mpr q), pc_rem M b l c60 s10 hi, (hcx i hi).2.2.2.2.2.2.1 q, if_neg]; rfl
    rw [pl_0, pn_eq (by omega) (by omega)]
    exact fun e => h ⟨q, e⟩
  · rw [if_neg (fun e => q ((pSt_eq _ h6.1).2.2.1.mp e))]; rfl
/-! ===== turning a key ===== -/
theorem px_isOf (M : tvM) (s : Nat → Nat) (t x : Int32) {i : Nat} (hi : i < 10) : f_X9_isOf (puN M s t) (nI i) x = if nI (s (36 + 13 * i + 0)) = x then nI 1 else if nI (s (36 + 13 * i + 1)) = x then nI 1 else nI 0 := by
  unfold f_X9_isOf
  rw [show f_X9_of (puN M s t) (nI i) 0 = _ from px_of M s t (w := 0) hi (by omega), show f_X9_of (puN M s t) (nI i) 1 = _ from px_of M s t (w := 1) hi (by omega)]
  rfl
theorem px_qisOf (M : tvM) (x : Int32) {i : Nat} (hi : i < 10) : q_X9_isOf M (nI i) x := ⟨px_qof M (w := 0) hi (by omega), fun _ => trivial, fun _ => ⟨px_qof M (w := 1) hi (by omega), fun _ => trivial, fun _ => trivial⟩⟩
def pNo (s : Nat → Nat) (i h : Nat) : Prop := 50 ≤ s 3 ∨ s 0 < s (12 + 3 * h + 2) ∨ 2 ≤ s (36 + 13 * i + 3) ∨ (s (36 + 13 * i + 3) = 1 ∧ s (36 + 13 * i + 4) = h)
theorem px_cannot (M : tvM) (s : Nat → Nat) (t : Int32) {i h : Nat} (hi : i < 10) (hh : h < 8) (hb : ∀ k, s k < 2147483648) : q_X9_cannotTurn (puN M s t) (nI i) (nI h) ∧ (pNo s i h → f_X9_cannotTurn (puN M s t) (nI i) (nI h) = nI 1) ∧ (¬ pNo s i h → f_X9_cannotTurn (puN M s t) (nI i) (nI h) = nI 0) := by
  have z3 : ∀ t, f_X9_of (puN M s t) (nI i) (nI 3) = nI (s (36 + 13 * i + 3)) := fun t => px_of M s t hi (by omega)
  have z4 : ∀ t, f_X9_of (puN M s t) (nI i) (nI 4) = nI (s (36 + 13 * i + 4)) := fun t => px_of M s t hi (by omega)
  have zl : ∀ t, f_X9_locked (puN M s t) (nI h) = if s 0 < s (12 + 3 * h + 2) then nI 1 else nI 0 := fun t => px_locked M s t hh hb
  have zq : ∀ m, q_X9_locked m (nI h) := fun m => px_qlocked m hh
  refine ⟨?_, fun q => ?_, fun q => ?_⟩
  · unfold q_X9_cannotTurn
    simp (disch := first | omega | exact hb _) only [pl_0, pl_1, pl_2, pl_3, pl_4, pl_5, pl_6, pl_7, pl_8, pl_9, pl_10, pl_11, pl_12, pl_13, pl_25, pl_30, pl_36, pl_50, pl_60, pl_98, pl_99, pl_100, pl_102, pl_104, pl_105, pl_108, pl_111, pl_112, pl_116, pl_119, pl_166, pl_199, pl_202, pl_239, pl_240, pl_480, pl_999, pl_1000, puN_g, puN_p, puN_pt, px_thr0, px_thr1, px_qthr0, px_qthr1, nI_add, pn_mul, pn_c, pn_le, pn_lt, pn_eq, px_of, px_sets, px_ofh, px_seth, px_qof, px_qsets, px_qofh, px_qseth, pun_s, pun_n, ↓reduceIte, z3, z4, zq]
    simp
  · unfold f_X9_cannotTurn
    unfold pNo at q
    by_cases ql : s 0 < s (12 + 3 * h + 2)
    · simp only [if_pos ql] at zl
      simp (disch := first | omega | exact hb _) only [pl_0, pl_1, pl_2, pl_3, pl_4, pl_5, pl_6, pl_7, pl_8, pl_9, pl_10, pl_11, pl_12, pl_13, pl_25, pl_30, pl_36, pl_50, pl_60, pl_98, pl_99, pl_100, pl_102, pl_104, pl_105, pl_108, pl_111, pl_112, pl_116, pl_119, pl_166, pl_199, pl_202, pl_239, pl_240, pl_480, pl_999, pl_1000, puN_g, puN_p, puN_pt, px_thr0, px_thr1, px_qthr0, px_qthr1, nI_add, pn_mul, pn_c, pn_le, pn_lt, pn_eq, px_of, px_sets, px_ofh, px_seth, px_qof, px_qsets, px_qofh, px_qseth, pun_s, pun_n, ↓reduceIte, z3, z4, zl]
      repeat' split
      all_goals first | rfl | (exfalso; omega)
    · simp only [if_neg ql] at zl
      simp (disch := first | omega | exact hb _) only [pl_0, pl_1, pl_2, pl_3, pl_4, pl_5, pl_6, pl_7, pl_8, pl_9, pl_10, pl_11, pl_12, pl_13, pl_25, pl_30, pl_36, pl_50, pl_60, pl_98, pl_99, pl_100, pl_102, pl_104, pl_105, pl_108, pl_111, pl_112, pl_116, pl_119, pl_166, pl_199, pl_202, pl_239, pl_240, pl_480, pl_999, pl_1000, puN_g, puN_p, puN_pt, px_thr0, px_thr1, px_qthr0, px_qthr1, nI_add, pn_mul, pn_c, pn_le, pn_lt, pn_eq, px_of, px_sets, px_ofh, px_seth, px_qof, px_qsets, px_qofh, px_qseth, pun_s, pun_n, ↓reduceIte, z3, z4, zl]
      repeat' split
      all_goals first | rfl | (exfalso; omega)
  · unfold f_X9_cannotTurn
    unfold pNo at q
    have ql : ¬ s 0 < s (12 + 3 * h + 2) := fun h => q (Or.inr (Or.inl h))
    simp only [if_neg ql] at zl
    simp (disch := first | omega | exact hb _) only [pl_0, pl_1, pl_2, pl_3, pl_4, pl_5, pl_6, pl_7, pl_8, pl_9, pl_10, pl_11, pl_12, pl_13, pl_25, pl_30, pl_36, pl_50, pl_60, pl_98, pl_99, pl_100, pl_102, pl_104, pl_105, pl_108, pl_111, pl_112, pl_116, pl_119, pl_166, pl_199, pl_202, pl_239, pl_240, pl_480, pl_999, pl_1000, puN_g, puN_p, puN_pt, px_thr0, px_thr1, px_qthr0, px_qthr1, nI_add, pn_mul, pn_c, pn_le, pn_lt, pn_eq, px_of, px_sets, px_ofh, px_seth, px_qof, px_qsets, px_qofh, px_qseth, pun_s, pun_n, ↓reduceIte, z3, z4, zl]
    repeat' split
    all_goals first | rfl | (exfalso; omega)
theorem pc_awaits {B : Nat} {c : Nat → Nat → Int32} {l : Int64} {s : Nat → Nat} {i : Nat} (hR : pOk B c l s) (hi : i < s 10) (M : tvM) (b : Nat) {h : Nat} (hh : h < 8) : f_X0_awaits (puC M b c l) b (nI i) (nI h) = if s (36 + 13 * i + 3) = 0 ∨ (s (36 + 13 * i + 3) = 1 ∧ s (36 + 13 * i + 4) ≠ h) then 1 else 0 := by
  obtain ⟨⟨hb, hs, hh, hx, he, hsum⟩, ⟨hc, hch, hcx, hcl⟩⟩ := id hR
  have hs' := hs
  obtain ⟨s0, s1, s2, s3, s45, s67, s8, s9, s10, s11, sB⟩ := hs
  have hc' := hc
  obtain ⟨c04, c05, c06, c07, cl, c10, c11, c20, c60⟩ := hc
  have h6 := hR.six hi
  unfold f_X0_awaits
  rw [hR.st hi, pc_first M b l c60 s10 hi]
  by_cases q0 : s (36 + 13 * i + 3) = 0
  · rw [if_pos ((pSt_eq _ h6.1).1.mpr q0), if_pos (Or.inl q0)]
  · rw [if_neg (fun e => q0 ((pSt_eq _ h6.1).1.mp e))]
    by_cases q1 : s (36 + 13 * i + 3) = 1
    · rw [if_pos ((pSt_eq _ h6.1).2.1.mpr q1), (hcx i hi).2.2.2.2.1 q1]
      by_cases q2 : s (36 + 13 * i + 4) = h
      · rw [if_pos (by rw [q2]), if_neg (by omega)]
      · rw [if_neg (by rw [pn_eq (hb _) (by omega)]; exact q2), if_pos (Or.inr ⟨q1, q2⟩)]
    · rw [if_neg (fun e => q1 ((pSt_eq _ h6.1).2.1.mp e)), if_neg (by omega)]
theorem px_sign (m : tvM) {k : Nat} (h : k ≤ 3) : q_X9_sign m (nI k) ∧ f_X9_sign m (nI k) = pSt k := by
  rcases (show k = 0 ∨ k = 1 ∨ k = 2 ∨ k = 3 by omega) with rfl | rfl | rfl | rfl
  · exact ⟨⟨vp_in_nI (n := 0) (N := 4) (by omega) (by omega), trivial⟩, by unfold f_X9_sign; decide⟩
  · exact ⟨⟨vp_in_nI (n := 1) (N := 4) (by omega) (by omega), trivial⟩, by unfold f_X9_sign; decide⟩
  · exact ⟨⟨vp_in_nI (n := 2) (N := 4) (by omega) (by omega), trivial⟩, by unfold f_X9_sign; decide⟩
  · exact ⟨⟨vp_in_nI (n := 3) (N := 4) (by omega) (by omega), trivial⟩, by unfold f_X9_sign; decide⟩
theorem px_sign1 (m : tvM) {k : Nat} (h : k ≤ 3) : q_X9_sign m (nI k) := (px_sign m h).1
theorem px_sign2 (m : tvM) {k : Nat} (h : k ≤ 3) : f_X9_sign m (nI k) = pSt k := (px_sign m h).2
theorem pSt_0 : pSt 0 = nI 99 := rfl
theorem pSt_1 : pSt 1 = nI 104 := rfl
theorem pSt_2 : pSt 2 = nI 112 := rfl
theorem pSt_3 : pSt 3 = nI 111 := rfl
theorem pSim_turns {B : Nat} {c : Nat → Nat → Int32} {l : Int64} {s : Nat → Nat} (b : Nat) (hR : pOk B c l s) (hB : B + 240 ≤ 10000000) (x1 x2 x3 : Int32) : pSim B c l s b (fun m => f_X6_refusalOfTurn m b x1 x2 x3) (fun m => f_X6_turn m b x1 x2) (fun m => f_X6_hearWrongCode m b x2) (fun m => f_X9_turns m x1 x2 x3) (fun m => q_X9_turns m x1 x2 x3) [(1, 1), (2, 2), (3, 3)] True 99 := by
  intro M M1 M' t
  obtain ⟨⟨hb, hs, hh, hx, he, hsum⟩, ⟨hc, hch, hcx, hcl⟩⟩ := id hR
  have hs' := hs
  obtain ⟨s0, s1, s2, s3, s45, s67, s8, s9, s10, s11, sB⟩ := hs
  have hc' := hc
  obtain ⟨c04, c05, c06, c07, cl, c10, c11, c20, c60⟩ := hc
  by_cases h1 : ∃ i, i < s 10 ∧ x1 = nI i
  case neg =>
    have g1 : ∀ t, f_X9_isBox (puN M' s t) x1 = nI 0 := fun t => px_box0 M' s t x1 s10 h1
    refine Or.inr (Or.inl ⟨(1, 1), by simp, ?_, ?_⟩)
    · simp only [f_X6_refusalOfTurn, pc_has0 M b l c60 s10 h1, ↓reduceIte]
    · unfold q_X9_turns f_X9_turns
      simp (disch := first | omega | exact hb _) only [pl_0, pl_1, pl_2, pl_3, pl_4, pl_5, pl_6, pl_7, pl_8, pl_9, pl_10, pl_11, pl_12, pl_13, pl_25, pl_30, pl_36, pl_50, pl_60, pl_98, pl_99, pl_100, pl_102, pl_104, pl_105, pl_108, pl_111, pl_112, pl_116, pl_119, pl_166, pl_199, pl_202, pl_239, pl_240, pl_480, pl_999, pl_1000, puN_g, puN_p, puN_pt, px_thr0, px_thr1, px_qthr0, px_qthr1, nI_add, pn_mul, pn_c, pn_le, pn_lt, pn_eq, px_of, px_sets, px_ofh, px_seth, px_qof, px_qsets, px_qofh, px_qseth, pun_s, pun_n, ↓reduceIte, g1]
      simp
  obtain ⟨i, hi, rfl⟩ := h1
  have g1 : ∀ t, f_X9_isBox (puN M' s t) (nI i) = nI 1 := fun t => px_box1 M' s t s10 hi
  have k1 := pc_has1 M b l c60 s10 hi
  by_cases h2 : ∃ i, i < s 9 ∧ x2 = nI i
  case neg =>
    have g2 : ∀ t, f_X9_isHolder (puN M' s t) x2 = nI 0 := fun t => px_hol0 M' s t x2 s9 h2
    refine Or.inr (Or.inl ⟨(1, 1), by simp, ?_, ?_⟩)
    · simp only [f_X6_refusalOfTurn, k1, pc_hh0 M b l c20 s9 h2, ↓reduceIte]
      simp
    · unfold q_X9_turns f_X9_turns
      simp (disch := first | omega | exact hb _) only [pl_0, pl_1, pl_2, pl_3, pl_4, pl_5, pl_6, pl_7, pl_8, pl_9, pl_10, pl_11, pl_12, pl_13, pl_25, pl_30, pl_36, pl_50, pl_60, pl_98, pl_99, pl_100, pl_102, pl_104, pl_105, pl_108, pl_111, pl_112, pl_116, pl_119, pl_166, pl_199, pl_202, pl_239, pl_240, pl_480, pl_999, pl_1000, puN_g, puN_p, puN_pt, px_thr0, px_thr1, px_qthr0, px_qthr1, nI_add, pn_mul, pn_c, pn_le, pn_lt, pn_eq, px_of, px_sets, px_ofh, px_seth, px_qof, px_qsets, px_qofh, px_qseth, pun_s, pun_n, ↓reduceIte, g1, g2]
      simp
  obtain ⟨h, hh9, rfl⟩ := h2
  have g2 : ∀ t, f_X9_isHolder (puN M' s t) (nI h) = nI 1 := fun t => px_hol1 M' s t s9 hh9
  have k2 := pc_hh1 M b l c20 s9 hh9
  have g3q : ∀ m, q_X9_isOf m (nI i) (nI h) := fun m => px_qisOf m _ (by omega)
  have g3 : ∀ t, f_X9_isOf (puN M' s t) (nI i) (nI h) = if nI (s (36 + 13 * i + 0)) = nI h then nI 1 else if nI (s (36 + 13 * i + 1)) = nI h then nI 1 else nI 0 := fun t => px_isOf M' s t (nI h) (by omega)
  have k3 := pc_belongs M b l c60 s10 hi (nI h)
  rw [(hcx i hi).1, (hcx i hi).2.1] at k3
  by_cases hof : nI (s (36 + 13 * i + 0)) = nI h ∨ nI (s (36 + 13 * i + 1)) = nI h
  case neg =>
    rw [if_neg (fun e => hof (Or.inl e)), if_neg (fun e => hof (Or.inr e))] at k3
    simp only [if_neg (fun e => hof (Or.inl e)), if_neg (fun e => hof (Or.inr e))] at g3
    refine Or.inr (Or.inl ⟨(2, 2), by simp, ?_, ?_⟩)
    · simp only [f_X6_refusalOfTurn, k1, k2, k3, ↓reduceIte]
      simp
    · unfold q_X9_turns f_X9_turns
      simp (disch := first | omega | exact hb _) only [pl_0, pl_1, pl_2, pl_3, pl_4, pl_5, pl_6, pl_7, pl_8, pl_9, pl_10, pl_11, pl_12, pl_13, pl_25, pl_30, pl_36, pl_50, pl_60, pl_98, pl_99, pl_100, pl_102, pl_104, pl_105, pl_108, pl_111, pl_112, pl_116, pl_119, pl_166, pl_199, pl_202, pl_239, pl_240, pl_480, pl_999, pl_1000, puN_g, puN_p, puN_pt, px_thr0, px_thr1, px_qthr0, px_qthr1, nI_add, pn_mul, pn_c, pn_le, pn_lt, pn_eq, px_of, px_sets, px_ofh, px_seth, px_qof, px_qsets, px_qofh, px_qseth, pun_s, pun_n, ↓reduceIte, g1, g2, g3, g3q]
      simp
  have k3 : f_X0_belongsTo (puC M b c l) b (nI i) (nI h) = 1 := by
    rw [k3]
    by_cases e : nI (s (36 + 13 * i + 0)) = nI h
    · rw [if_pos e]
    · rw [if_neg e, if_pos (hof.resolve_left e)]
  have g3 : ∀ t, f_X9_isOf (puN M' s t) (nI i) (nI h) = nI 1 := fun t => by
    rw [g3]
    by_cases e : nI (s (36 + 13 * i + 0)) = nI h
    · rw [if_pos e]
    · rw [if_neg e, if_pos (hof.resolve_left e)]
  have g4 := fun t => px_cannot M' s t (i := i) (h := h) (by omega) (by omega) hb
  have g4q := fun t => (g4 t).1
  obtain ⟨z0, z1, z2⟩ := hch h hh9
  have k4 := pc_locked M b l c20 s9 hh9 c04 z2 (hb _) (hb _)
  have k5 := pc_awaits hR hi M b (h := h) (by omega)
  have h6 := hR.six hi
  have k6 : (50 : Int32) ≤ nI (s 3) ↔ 50 ≤ s 3 := by rw [pl_50, pn_le (by omega) (by omega)]
  by_cases hno : pNo s i h
  · have g5 : ∀ t, f_X9_cannotTurn (puN M' s t) (nI i) (nI h) = nI 1 := fun t => (g4 t).2.1 hno
    refine Or.inr (Or.inl ⟨(3, 3), by simp, ?_, ?_⟩)
    · show f_X6_refusalOfTurn _ _ _ _ _ = 3
      unfold f_X6_refusalOfTurn
      rw [k1, k2, k3, k4, k5, puC_g0, c05, if_neg (by decide), if_neg (by decide), if_neg (by decide)]
      by_cases a1 : 50 ≤ s 3
      · rw [if_pos (k6.mpr a1)]
      · rw [if_neg (fun e => a1 (k6.mp e))]
        by_cases a2 : s 0 < s (12 + 3 * h + 2)
        · rw [if_pos a2, if_neg (by decide)]
        · rw [if_neg a2, if_pos rfl, if_neg (show ¬ (s (36 + 13 * i + 3) = 0 ∨ s (36 + 13 * i + 3) = 1 ∧ s (36 + 13 * i + 4) ≠ h) by unfold pNo at hno; omega), if_pos rfl]
    · unfold q_X9_turns f_X9_turns
      simp (disch := first | omega | exact hb _) only [pl_0, pl_1, pl_2, pl_3, pl_4, pl_5, pl_6, pl_7, pl_8, pl_9, pl_10, pl_11, pl_12, pl_13, pl_25, pl_30, pl_36, pl_50, pl_60, pl_98, pl_99, pl_100, pl_102, pl_104, pl_105, pl_108, pl_111, pl_112, pl_116, pl_119, pl_166, pl_199, pl_202, pl_239, pl_240, pl_480, pl_999, pl_1000, puN_g, puN_p, puN_pt, px_thr0, px_thr1, px_qthr0, px_qthr1, nI_add, pn_mul, pn_c, pn_le, pn_lt, pn_eq, px_of, px_sets, px_ofh, px_seth, px_qof, px_qsets, px_qofh, px_qseth, pun_s, pun_n, ↓reduceIte, g1, g2, g3, g3q, g4q, g5]
      simp
  have g5 : ∀ t, f_X9_cannotTurn (puN M' s t) (nI i) (nI h) = nI 0 := fun t => (g4 t).2.2 hno
  have hno1 : ¬ 50 ≤ s 3 := fun e => hno (Or.inl e)
  have hno2 : ¬ s 0 < s (12 + 3 * h + 2) := fun e => hno (Or.inr (Or.inl e))
  have hno3 : s (36 + 13 * i + 3) = 0 ∨ (s (36 + 13 * i + 3) = 1 ∧ s (36 + 13 * i + 4) ≠ h) := by
    unfold pNo at hno
    omega
  rw [if_neg hno2] at k4
  rw [if_pos hno3] at k5
  have k7 : f_X6_refusalOfTurn (puC M b c l) b (nI i) (nI h) x3 = if nI (s (12 + 3 * h + 0)) = x3 then 0 else 4 := by
    unfold f_X6_refusalOfTurn
    rw [k1, k2, k3, k4, k5, puC_g0, c05, if_neg (by decide), if_neg (by decide), if_neg (by decide), if_neg (fun e => hno1 (k6.mp e)), if_pos rfl, if_neg (by decide), pc_code M b l c20 s9 hh9, z0]
  by_cases hcode : nI (s (12 + 3 * h + 0)) = x3
  case neg =>
    obtain ⟨c', s', w1, w2, w3, wX, wA⟩ := pHear hR (by omega) hh9
    rw [if_neg hcode] at k7
    refine Or.inr (Or.inr ⟨k7, c', l, s', w1 _ _, ?_, ?_, w3.up (by omega) hB, wX, wA⟩)
    · unfold q_X9_turns
      simp (disch := first | omega | exact hb _ | (simp (disch := omega) only [pun_n, pun_s, pLog_o]; first | omega | (apply pLog_le; simp (disch := omega) only [pun_n]; omega))) only [pl_0, pl_1, pl_2, pl_3, pl_4, pl_5, pl_6, pl_7, pl_8, pl_9, pl_10, pl_11, pl_12, pl_13, pl_25, pl_30, pl_36, pl_50, pl_60, pl_98, pl_99, pl_100, pl_102, pl_104, pl_105, pl_108, pl_111, pl_112, pl_116, pl_119, pl_166, pl_199, pl_202, pl_239, pl_240, pl_480, pl_999, pl_1000, puN_g, puN_p, puN_pt, px_thr0, px_thr1, px_qthr0, px_qthr1, nI_add, pn_mul, pn_c, pn_le, pn_lt, pn_eq, px_of, px_sets, px_ofh, px_seth, px_qof, px_qsets, px_qofh, px_qseth, pun_s, pun_n, ↓reduceIte, px_rings, px_hap, px_qhap, pLog_o, pun_pun, g1, g2, g3, g3q, g4q, g5, (w2 _ _ _ hcode).1, (w2 _ _ _ hcode).2]
      simp
    · unfold f_X9_turns
      simp (disch := first | omega | exact hb _ | (simp (disch := omega) only [pun_n, pun_s, pLog_o]; first | omega | (apply pLog_le; simp (disch := omega) only [pun_n]; omega))) only [pl_0, pl_1, pl_2, pl_3, pl_4, pl_5, pl_6, pl_7, pl_8, pl_9, pl_10, pl_11, pl_12, pl_13, pl_25, pl_30, pl_36, pl_50, pl_60, pl_98, pl_99, pl_100, pl_102, pl_104, pl_105, pl_108, pl_111, pl_112, pl_116, pl_119, pl_166, pl_199, pl_202, pl_239, pl_240, pl_480, pl_999, pl_1000, puN_g, puN_p, puN_pt, px_thr0, px_thr1, px_qthr0, px_qthr1, nI_add, pn_mul, pn_c, pn_le, pn_lt, pn_eq, px_of, px_sets, px_ofh, px_seth, px_qof, px_qsets, px_qofh, px_qseth, pun_s, pun_n, ↓reduceIte, px_rings, px_hap, px_qhap, pLog_o, pun_pun, g1, g2, g3, g5, (w2 _ _ _ hcode).2]
      simp
  subst hcode
  rw [if_pos rfl] at k7
  obtain ⟨w1, w2, w3⟩ := pRight hR (by omega) hh9
  obtain ⟨c1, hc1⟩ : ∃ z, z = tvU (tvU c 0 6 (nI (s 4 + 1))) 4 h (nI 0) := ⟨_, rfl⟩
  rw [← hc1] at w1 w3
  have e1 : c1 0 4 = nI (s 0) := by rw [hc1]; simp (disch := omega) only [pcu_r, pcu_k]; exact c04
  have e2 : c1 6 0 = nI (s 10) := by rw [hc1]; simp (disch := omega) only [pcu_r]; exact c60
  have e3 : c1 9 i = nI (s (36 + 13 * i + 2)) := by rw [hc1]; simp (disch := omega) only [pcu_r]; exact (hcx i hi).2.2.1
  have hi1 : i < (pun (pun s 4 (s 4 + 1)) (12 + 3 * h + 1) 0) 10 := by simp (disch := omega) only [pun_n]; exact hi
  have st1 : ∀ M b, f_X0_statusOf (puC M b c1 l) b (nI i) = pSt (s (36 + 13 * i + 3)) := fun M b => by
    rw [w3.st hi1]; simp (disch := omega) only [pun_n]
  by_cases q : s (36 + 13 * i + 3) = 0
  · have r := pOk_half0 w3 hi1 (h := h) (by omega)
    refine Or.inl ⟨k7, 104, _, l, _, by omega, ?_, ?_, ?_, r.up (by omega) hB, fun _ z hX => pXi_bw (w := 5) _ (by omega) (by omega) (by omega) (pXi_half (by omega) (by simp (disch := omega) only [pun_n]; exact hof.imp (fun e => ((pn_eq (hb _) (by omega)).mp e).symm) (fun e => ((pn_eq (hb _) (by omega)).mp e).symm)) (pXi_ho (w := 1) _ (by omega) (by omega) (by omega) (pXi_lo _ (by omega) (by omega) hX))), by omega⟩
    · simp only [f_X6_turn, w1, st1, q, puC_g0, e1, pc_half M1 b l e2 s10 hi]
      rw [if_pos (by decide), pc_status M1 b l (n := s 10) (by simp (disch := omega) only [pcu_r]; exact e2) s10 hi]
      simp (disch := omega) only [pcu_r, pcu_s, pun_n]
      rfl
    · unfold q_X9_turns
      simp (disch := first | omega | exact hb _ | (simp (disch := omega) only [pun_n, pun_s, pLog_o]; first | omega | (apply pLog_le; simp (disch := omega) only [pun_n]; omega))) only [pl_0, pl_1, pl_2, pl_3, pl_4, pl_5, pl_6, pl_7, pl_8, pl_9, pl_10, pl_11, pl_12, pl_13, pl_25, pl_30, pl_36, pl_50, pl_60, pl_98, pl_99, pl_100, pl_102, pl_104, pl_105, pl_108, pl_111, pl_112, pl_116, pl_119, pl_166, pl_199, pl_202, pl_239, pl_240, pl_480, pl_999, pl_1000, puN_g, puN_p, puN_pt, px_thr0, px_thr1, px_qthr0, px_qthr1, nI_add, pn_mul, pn_c, pn_le, pn_lt, pn_eq, px_of, px_sets, px_ofh, px_seth, px_qof, px_qsets, px_qofh, px_qseth, pun_s, pun_n, ↓reduceIte, px_rings, px_hap, px_qhap, pLog_o, pun_pun, g1, g2, g3, g3q, g4q, g5, (w2 _ _).1, (w2 _ _).2, q, px_sign1, px_sign2]
      simp
    · unfold f_X9_turns
      simp (disch := first | omega | exact hb _ | (simp (disch := omega) only [pun_n, pun_s, pLog_o]; first | omega | (apply pLog_le; simp (disch := omega) only [pun_n]; omega))) only [pl_0, pl_1, pl_2, pl_3, pl_4, pl_5, pl_6, pl_7, pl_8, pl_9, pl_10, pl_11, pl_12, pl_13, pl_25, pl_30, pl_36, pl_50, pl_60, pl_98, pl_99, pl_100, pl_102, pl_104, pl_105, pl_108, pl_111, pl_112, pl_116, pl_119, pl_166, pl_199, pl_202, pl_239, pl_240, pl_480, pl_999, pl_1000, puN_g, puN_p, puN_pt, px_thr0, px_thr1, px_qthr0, px_qthr1, nI_add, pn_mul, pn_c, pn_le, pn_lt, pn_eq, px_of, px_sets, px_ofh, px_seth, px_qof, px_qsets, px_qofh, px_qseth, pun_s, pun_n, ↓reduceIte, px_rings, px_hap, px_qhap, pLog_o, pun_pun, g1, g2, g3, g5, (w2 _ _).2, q, px_sign2, pSt_1]
      try simp
  · have q1 : s (36 + 13 * i + 3) = 1 := by omega
    have r := pOk_pend0 w3 hi1
    simp (disch := omega) only [pun_n] at r
    have hi2 : i < (pun (pun (pun (pun s 4 (s 4 + 1)) (12 + 3 * h + 1) 0) (36 + 13 * i + 3) 2) (36 + 13 * i + 6) (s (36 + 13 * i + 2))) 10 := by simp (disch := omega) only [pun_n]; exact hi
    have st2 : ∀ M b, f_X0_startDelay (puC M b c1 l) b (nI i) = puC M b (tvU (tvU c1 10 i 112) 12 i (c1 9 i)) l := fun M b => pc_start M b l e2 s10 hi
    have st3 : ∀ M b, f_X6_isLow (puC M b (tvU (tvU c1 10 i 112) 12 i (c1 9 i)) l) b = if s 0 % s 1 < s 2 then 1 else 0 := fun M b => by
      rw [r.low]; simp (disch := omega) only [pun_n]
    have st4 : ∀ M b, f_X0_statusOf (puC M b (tvU (tvU c1 10 i 112) 12 i (c1 9 i)) l) b (nI i) = nI 112 := fun M b => by
      rw [r.st hi2]; simp (disch := omega) only [pun_n, pun_s]; rfl
    have nst : ¬ pSt 1 = 99 := by decide
    by_cases qd : s (36 + 13 * i + 2) = 0 ∧ s 0 % s 1 < s 2
    · obtain ⟨qd0, qdl⟩ := qd
      obtain ⟨c3, s3', o1, o2, o3, o4, o5, o6, o7, o8, o9⟩ := pOpen r hi2 (by simp (disch := omega) only [pun_n]; omega) (by simp (disch := omega) only [pun_n, pun_s]) (by simp (disch := omega) only [pun_n, pun_s]; exact qd0)
      have hi3 : i < s3' 10 := by rw [o4 _ (by omega) (by omega) (by omega)]; exact hi2
      have st5 : ∀ M b, f_X0_statusOf (puC M b c3 l) b (nI i) = nI 111 := fun M b => by rw [o3.st hi3, o7]; rfl
      refine Or.inl ⟨k7, 111, c3, l, s3', by omega, ?_, ?_, ?_, o3.up (by omega) hB, fun _ z hX => by rw [o9]; exact pXi_opR (by omega) (by first | (simp (disch := omega) only [pun_n]; omega) | (simp (disch := omega) only [pun_n]; apply pLog_le; simp (disch := omega) only [pun_n]; omega)) (pXi_bw (w := 6) _ (by omega) (by omega) (by omega) (pXi_st (by omega) (by decide) (pXi_ho (w := 1) _ (by omega) (by omega) (by omega) (pXi_lo _ (by omega) (by omega) hX)))), by omega⟩
      · simp only [f_X6_turn, w1, st1, q1, nst, st2, st3, o1, st5, if_pos qdl, ↓reduceIte]
        simp
      · unfold q_X9_turns
        simp (disch := first | omega | exact hb _ | (simp (disch := omega) only [pun_n, pun_s, pLog_o]; first | omega | (apply pLog_le; simp (disch := omega) only [pun_n]; omega))) only [pl_0, pl_1, pl_2, pl_3, pl_4, pl_5, pl_6, pl_7, pl_8, pl_9, pl_10, pl_11, pl_12, pl_13, pl_25, pl_30, pl_36, pl_50, pl_60, pl_98, pl_99, pl_100, pl_102, pl_104, pl_105, pl_108, pl_111, pl_112, pl_116, pl_119, pl_166, pl_199, pl_202, pl_239, pl_240, pl_480, pl_999, pl_1000, puN_g, puN_p, puN_pt, px_thr0, px_thr1, px_qthr0, px_qthr1, nI_add, pn_mul, pn_c, pn_le, pn_lt, pn_eq, px_of, px_sets, px_ofh, px_seth, px_qof, px_qsets, px_qofh, px_qseth, pun_s, pun_n, ↓reduceIte, px_rings, px_hap, px_qhap, pLog_o, pun_pun, g1, g2, g3, g3q, g4q, g5, (w2 _ _).1, (w2 _ _).2, q1, px_sign1, px_sign2, px_low, px_qlow, if_pos qdl, (o2 _ _).1, (o2 _ _).2, o7]
        simp
      · unfold f_X9_turns
        simp (disch := first | omega | exact hb _ | (simp (disch := omega) only [pun_n, pun_s, pLog_o]; first | omega | (apply pLog_le; simp (disch := omega) only [pun_n]; omega))) only [pl_0, pl_1, pl_2, pl_3, pl_4, pl_5, pl_6, pl_7, pl_8, pl_9, pl_10, pl_11, pl_12, pl_13, pl_25, pl_30, pl_36, pl_50, pl_60, pl_98, pl_99, pl_100, pl_102, pl_104, pl_105, pl_108, pl_111, pl_112, pl_116, pl_119, pl_166, pl_199, pl_202, pl_239, pl_240, pl_480, pl_999, pl_1000, puN_g, puN_p, puN_pt, px_thr0, px_thr1, px_qthr0, px_qthr1, nI_add, pn_mul, pn_c, pn_le, pn_lt, pn_eq, px_of, px_sets, px_ofh, px_seth, px_qof, px_qsets, px_qofh, px_qseth, pun_s, pun_n, ↓reduceIte, px_rings, px_hap, px_qhap, pLog_o, pun_pun, g1, g2, g3, g5, (w2 _ _).2, q1, px_sign2, px_low, if_pos qdl, (o2 _ _).2, o7]
        simp [qd0]
        rfl
    · refine Or.inl ⟨k7, 112, _, l, _, by omega, ?_, ?_, ?_, r.up (by omega) hB, fun _ z hX => pXi_bw (w := 6) _ (by omega) (by omega) (by omega) (pXi_st (by omega) (by decide) (pXi_ho (w := 1) _ (by omega) (by omega) (by omega) (pXi_lo _ (by omega) (by omega) hX))), by omega⟩
      · by_cases ql : s 0 % s 1 < s 2
        · have nop : ∀ M b, f_X6_openIfDue (puC M b (tvU (tvU c1 10 i 112) 12 i (c1 9 i)) l) b (nI i) = (nI 0, puC M b (tvU (tvU c1 10 i 112) 12 i (c1 9 i)) l) := fun M b => pOpen_no r hi2 (by simp (disch := omega) only [pun_n, pun_s]; exact fun e => qd ⟨e.2, ql⟩) M b
          simp only [f_X6_turn, w1, st1, q1, nst, st2, st3, nop, st4, if_pos ql, ↓reduceIte]
          simp
        · simp only [f_X6_turn, w1, st1, q1, nst, st2, st3, st4, if_neg ql, ↓reduceIte]
      · unfold q_X9_turns
        by_cases ql : s 0 % s 1 < s 2
        · have qd0 : ¬ s (36 + 13 * i + 2) = 0 := fun e => qd ⟨e, ql⟩
          simp (disch := first | omega | exact hb _ | (simp (disch := omega) only [pun_n, pun_s, pLog_o]; first | omega | (apply pLog_le; simp (disch := omega) only [pun_n]; omega))) only [pl_0, pl_1, pl_2, pl_3, pl_4, pl_5, pl_6, pl_7, pl_8, pl_9, pl_10, pl_11, pl_12, pl_13, pl_25, pl_30, pl_36, pl_50, pl_60, pl_98, pl_99, pl_100, pl_102, pl_104, pl_105, pl_108, pl_111, pl_112, pl_116, pl_119, pl_166, pl_199, pl_202, pl_239, pl_240, pl_480, pl_999, pl_1000, puN_g, puN_p, puN_pt, px_thr0, px_thr1, px_qthr0, px_qthr1, nI_add, pn_mul, pn_c, pn_le, pn_lt, pn_eq, px_of, px_sets, px_ofh, px_seth, px_qof, px_qsets, px_qofh, px_qseth, pun_s, pun_n, ↓reduceIte, px_rings, px_hap, px_qhap, pLog_o, pun_pun, g1, g2, g3, g3q, g4q, g5, (w2 _ _).1, (w2 _ _).2, q1, px_sign1, px_sign2, px_low, px_qlow, if_pos ql, qd0]
          simp
        · simp (disch := first | omega | exact hb _ | (simp (disch := omega) only [pun_n, pun_s, pLog_o]; first | omega | (apply pLog_le; simp (disch := omega) only [pun_n]; omega))) only [pl_0, pl_1, pl_2, pl_3, pl_4, pl_5, pl_6, pl_7, pl_8, pl_9, pl_10, pl_11, pl_12, pl_13, pl_25, pl_30, pl_36, pl_50, pl_60, pl_98, pl_99, pl_100, pl_102, pl_104, pl_105, pl_108, pl_111, pl_112, pl_116, pl_119, pl_166, pl_199, pl_202, pl_239, pl_240, pl_480, pl_999, pl_1000, puN_g, puN_p, puN_pt, px_thr0, px_thr1, px_qthr0, px_qthr1, nI_add, pn_mul, pn_c, pn_le, pn_lt, pn_eq, px_of, px_sets, px_ofh, px_seth, px_qof, px_qsets, px_qofh, px_qseth, pun_s, pun_n, ↓reduceIte, px_rings, px_hap, px_qhap, pLog_o, pun_pun, g1, g2, g3, g3q, g4q, g5, (w2 _ _).1, (w2 _ _).2, q1, px_sign1, px_sign2, px_low, px_qlow, if_neg ql]
          simp
      · unfold f_X9_turns
        by_cases ql : s 0 % s 1 < s 2
        · have qd0 : ¬ s (36 + 13 * i + 2) = 0 := fun e => qd ⟨e, ql⟩
          simp (disch := first | omega | exact hb _ | (simp (disch := omega) only [pun_n, pun_s, pLog_o]; first | omega | (apply pLog_le; simp (disch := omega) only [pun_n]; omega))) only [pl_0, pl_1, pl_2, pl_3, pl_4, pl_5, pl_6, pl_7, pl_8, pl_9, pl_10, pl_11, pl_12, pl_13, pl_25, pl_30, pl_36, pl_50, pl_60, pl_98, pl_99, pl_100, pl_102, pl_104, pl_105, pl_108, pl_111, pl_112, pl_116, pl_119, pl_166, pl_199, pl_202, pl_239, pl_240, pl_480, pl_999, pl_1000, puN_g, puN_p, puN_pt, px_thr0, px_thr1, px_qthr0, px_qthr1, nI_add, pn_mul, pn_c, pn_le, pn_lt, pn_eq, px_of, px_sets, px_ofh, px_seth, px_qof, px_qsets, px_qofh, px_qseth, pun_s, pun_n, ↓reduceIte, px_rings, px_hap, px_qhap, pLog_o, pun_pun, g1, g2, g3, g5, (w2 _ _).2, q1, px_sign2, px_low, if_pos ql, qd0]
          simp
          rfl
        · simp (disch := first | omega | exact hb _ | (simp (disch := omega) only [pun_n, pun_s, pLog_o]; first | omega | (apply pLog_le; simp (disch := omega) only [pun_n]; omega))) only [pl_0, pl_1, pl_2, pl_3, pl_4, pl_5, pl_6, pl_7, pl_8, pl_9, pl_10, pl_11, pl_12, pl_13, pl_25, pl_30, pl_36, pl_50, pl_60, pl_98, pl_99, pl_100, pl_102, pl_104, pl_105, pl_108, pl_111, pl_112, pl_116, pl_119, pl_166, pl_199, pl_202, pl_239, pl_240, pl_480, pl_999, pl_1000, puN_g, puN_p, puN_pt, px_thr0, px_thr1, px_qthr0, px_qthr1, nI_add, pn_mul, pn_c, pn_le, pn_lt, pn_eq, px_of, px_sets, px_ofh, px_seth, px_qof, px_qsets, px_qofh, px_qseth, pun_s, pun_n, ↓reduceIte, px_rings, px_hap, px_qhap, pLog_o, pun_pun, g1, g2, g3, g5, (w2 _ _).2, q1, px_sign2, px_low, if_neg ql]
          simp
          rfl

