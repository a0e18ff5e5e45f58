theorem p10 : ¬ (1 : Int32) = 0 := by decide
/-! ===== questions ===== -/
def pAsk (M : tvM) (s : Nat → Nat) (cf : Option String × Int32 × tvM) (mf : tvM → Int32 × tvM) (mq : tvM → Prop) (ex : List (String × Nat)) : Prop :=
  (∃ v : Int32, cf = (none, v, M) ∧ ∀ M' t, mq (puN M' s t) ∧ mf (puN M' s t) = (v, puN M' s (nI 0))) ∨ (∃ p ∈ ex, cf = (some p.1, 0, M) ∧ ∀ M' t, mq (puN M' s t) ∧ mf (puN M' s t) = (nI 0, puN M' s (nI p.2)))
/-- a model's answer changes nothing that counts -/
theorem pJ_q {B : Nat} {M : tvM} {s : Nat → Nat} {x n : Nat} (h : pJs B M M s x n) (hr : pJr B M M) (hB : B ≤ 10000000) {M' : tvM} (e1 : M'.1 = M.1) (e2 : ∀ a, a < 249 → M'.2.1 a = M.2.1 a) (t : Int32) : pJ B (puN M' s t) (puN M' s t) := by
  obtain ⟨h1, h2, ⟨hx, hn, h5, h6, h7⟩, h8⟩ := h
  have o : ∀ a k, a ≠ 250 → ¬ (a = 249 ∧ k = 5) → (puN M' s t).1 a k = M.1 a k := fun a k q1 q2 => by
    rw [← e1]
    exact puN_o M' s t q1 q2
  have oc : pCr M (puN M' s t) := ⟨fun a ha => funext fun k => o a k (by omega) (by omega), fun a ha => e2 a ha⟩
  refine pJ_k hB ?_ oc
  exact ⟨s, x, n, ⟨fun k => puN_g _ _ _ k, h2, ⟨hx, hn, h5, h6, by rw [o 249 4 (by omega) (by omega)]; exact h7⟩, pHist_m h8 (funext fun k => o 253 k (by omega) (by omega))⟩, pJr_c hr (Nat.le_refl _) hB (fun _ _ _ => rfl) (fun _ _ _ => rfl) rfl (fun _ _ _ => rfl) (fun k _ _ => o 249 k (by omega) (by omega)) (fun a ha => funext fun k => o a k (by omega) (by omega))⟩
theorem pAsk_self {M : tvM} {s : Nat → Nat} {cf : Option String × Int32 × tvM} {mf : tvM → Int32 × tvM} {mq : tvM → Prop} {ex : List (String × Nat)} (h1 : ∀ k, M.1 250 k = nI (s k)) (h : pAsk M s cf mf mq ex) :
    (∃ v : Int32, cf = (none, v, M) ∧ ∀ M' : tvM, M'.1 = M.1 → mq M' ∧ mf M' = (v, puN M' s (nI 0))) ∨ (∃ p ∈ ex, cf = (some p.1, 0, M) ∧ ∀ M' : tvM, M'.1 = M.1 → mq M' ∧ mf M' = (nI 0, puN M' s (nI p.2))) := by
  have e : ∀ M' : tvM, M'.1 = M.1 → puN M' s (M'.1 249 5) = M' := fun M' e => puN_self (fun k => by rw [e]; exact h1 k) rfl
  rcases h with ⟨v, a, b⟩ | ⟨p, hp, a, b⟩
  · refine Or.inl ⟨v, a, fun M' em => ?_⟩
    have := b M' (M'.1 249 5)
    rwa [e M' em] at this
  · refine Or.inr ⟨p, hp, a, fun M' em => ?_⟩
    have := b M' (M'.1 249 5)
    rwa [e M' em] at this
/-! the questions, one by one -/
section
variable {B : Nat} {c : Nat → Nat → Int32} {l : Int64} {s : Nat → Nat}
theorem pAsk_attempts (hR : pOk B c l s) (M : tvM) (x1 : Int32) : pAsk (puC M 1 c l) s (f_X8_attempts (puC M 1 c l) x1) (fun m => f_X9_attempts m x1) (fun m => q_X9_attempts m x1) [("java/lang/IndexOutOfBoundsException", 1)] := by
  obtain ⟨⟨hb, hs, hh, hx, he, hsum⟩, ⟨hc, hch, hcx, hcl⟩⟩ := id hR
  have hs' := hs
  obtain ⟨s0, s1, s2, s3, s45, s67, s8, s9, s10, s11, sB⟩ := hs
  have hc' := hc
  obtain ⟨c04, c05, c06, c07, cl, c10, c11, c20, c60⟩ := hc
  by_cases h1 : ∃ i, i < s 9 ∧ x1 = nI i
  · obtain ⟨i, hi, rfl⟩ := h1
    have g1 : ∀ M' t, f_X9_isHolder (puN M' s t) (nI i) = nI 1 := fun M' t => px_hol1 M' s t s9 hi
    have k1 := pc_hh1 M 1 l c20 s9 hi
    refine Or.inl ⟨nI (s (12 + 3 * i + 1)), ?_, fun M' t => ?_⟩
    · unfold f_X8_attempts f_X8_refusalOfHolderNumber
      rw [k1, if_neg p10, pRef_0, if_pos rfl, pc_att M 1 l c20 s9 hi, (hch i hi).2.1]
    · unfold q_X9_attempts f_X9_attempts
      simp (disch := first | omega | exact hb _) only [pl_0, pl_1, pl_2, pl_3, pl_4, pl_5, pl_6, pl_7, pl_8, pl_9, pl_10, pl_11, pl_12, pl_13, pl_25, pl_30, pl_36, pl_50, pl_60, pl_98, pl_99, pl_100, pl_102, pl_104, pl_105, pl_108, pl_111, pl_112, pl_116, pl_119, pl_166, pl_199, pl_202, pl_239, pl_240, pl_480, pl_999, pl_1000, puN_g, puN_p, puN_pt, px_thr0, px_thr1, px_qthr0, px_qthr1, nI_add, pn_mul, pn_c, pn_le, pn_lt, pn_eq, px_of, px_sets, px_ofh, px_seth, px_qof, px_qsets, px_qofh, px_qseth, pun_s, pun_n, ↓reduceIte, g1]
      simp
  · have g1 : ∀ M' t, f_X9_isHolder (puN M' s t) x1 = nI 0 := fun M' t => px_hol0 M' s t x1 s9 h1
    refine Or.inr ⟨_, List.mem_singleton.2 rfl, ?_, fun M' t => ?_⟩
    · unfold f_X8_attempts f_X8_refusalOfHolderNumber
      rw [pc_hh0 M 1 l c20 s9 h1, if_pos rfl, pRef_1]
      simp
    · unfold q_X9_attempts f_X9_attempts
      simp (disch := first | omega | exact hb _) only [pl_0, pl_1, pl_2, pl_3, pl_4, pl_5, pl_6, pl_7, pl_8, pl_9, pl_10, pl_11, pl_12, pl_13, pl_25, pl_30, pl_36, pl_50, pl_60, pl_98, pl_99, pl_100, pl_102, pl_104, pl_105, pl_108, pl_111, pl_112, pl_116, pl_119, pl_166, pl_199, pl_202, pl_239, pl_240, pl_480, pl_999, pl_1000, puN_g, puN_p, puN_pt, px_thr0, px_thr1, px_qthr0, px_qthr1, nI_add, pn_mul, pn_c, pn_le, pn_lt, pn_eq, px_of, px_sets, px_ofh, px_seth, px_qof, px_qsets, px_qofh, px_qseth, pun_s, pun_n, ↓reduceIte, g1]
      simp
theorem pAsk_minutesLocked (hR : pOk B c l s) (M : tvM) (x1 : Int32) : pAsk (puC M 1 c l) s (f_X8_minutesLocked (puC M 1 c l) x1) (fun m => f_X9_minutesLocked m x1) (fun m => q_X9_minutesLocked m x1) [("java/lang/IndexOutOfBoundsException", 1)] := by
  obtain ⟨⟨hb, hs, hh, hx, he, hsum⟩, ⟨hc, hch, hcx, hcl⟩⟩ := id hR
  have hs' := hs
  obtain ⟨s0, s1, s2, s3, s45, s67, s8, s9, s10, s11, sB⟩ := hs
  have hc' := hc
  obtain ⟨c04, c05, c06, c07, cl, c10, c11, c20, c60⟩ := hc
  by_cases h1 : ∃ i, i < s 9 ∧ x1 = nI i
  · obtain ⟨i, hi, rfl⟩ := h1
    have g1 : ∀ M' t, f_X9_isHolder (puN M' s t) (nI i) = nI 1 := fun M' t => px_hol1 M' s t s9 hi
    have k1 := pc_hh1 M 1 l c20 s9 hi
    refine Or.inl ⟨nI (s (12 + 3 * i + 2) - s 0), ?_, fun M' t => ?_⟩
    · unfold f_X8_minutesLocked f_X8_refusalOfHolderNumber
      rw [k1, if_neg p10, pRef_0, if_pos rfl]
      have e4 : tgi (puC M 1 c l) 1 4 = nI (s 0) := by rw [puC_g0]; exact c04
      rw [e4, pc_lockedFor M 1 l c20 s9 hi (hch i hi).2.2 (hb _) (hb _)]
    · unfold q_X9_minutesLocked f_X9_minutesLocked q_X9_locked f_X9_locked
      by_cases q : s (12 + 3 * i + 2) ≤ s 0
      · simp (disch := first | omega | exact hb _) only [pl_0, pl_1, pl_2, pl_3, pl_4, pl_5, pl_6, pl_7, pl_8, pl_9, pl_10, pl_11, pl_12, pl_13, pl_25, pl_30, pl_36, pl_50, pl_60, pl_98, pl_99, pl_100, pl_102, pl_104, pl_105, pl_108, pl_111, pl_112, pl_116, pl_119, pl_166, pl_199, pl_202, pl_239, pl_240, pl_480, pl_999, pl_1000, puN_g, puN_p, puN_pt, px_thr0, px_thr1, px_qthr0, px_qthr1, nI_add, pn_mul, pn_c, pn_le, pn_lt, pn_eq, px_of, px_sets, px_ofh, px_seth, px_qof, px_qsets, px_qofh, px_qseth, pun_s, pun_n, ↓reduceIte, g1, if_pos q]
        simp [q, show s (12 + 3 * i + 2) - s 0 = 0 by omega]
      · simp (disch := first | omega | exact hb _) only [pl_0, pl_1, pl_2, pl_3, pl_4, pl_5, pl_6, pl_7, pl_8, pl_9, pl_10, pl_11, pl_12, pl_13, pl_25, pl_30, pl_36, pl_50, pl_60, pl_98, pl_99, pl_100, pl_102, pl_104, pl_105, pl_108, pl_111, pl_112, pl_116, pl_119, pl_166, pl_199, pl_202, pl_239, pl_240, pl_480, pl_999, pl_1000, puN_g, puN_p, puN_pt, px_thr0, px_thr1, px_qthr0, px_qthr1, nI_add, pn_mul, pn_c, pn_le, pn_lt, pn_eq, px_of, px_sets, px_ofh, px_seth, px_qof, px_qsets, px_qofh, px_qseth, pun_s, pun_n, ↓reduceIte, g1, if_neg q]
        rw [pn_sub (by omega)]
        simp [q]
  · have g1 : ∀ M' t, f_X9_isHolder (puN M' s t) x1 = nI 0 := fun M' t => px_hol0 M' s t x1 s9 h1
    refine Or.inr ⟨_, List.mem_singleton.2 rfl, ?_, fun M' t => ?_⟩
    · unfold f_X8_minutesLocked f_X8_refusalOfHolderNumber
      rw [pc_hh0 M 1 l c20 s9 h1, if_pos rfl, pRef_1]
      simp
    · unfold q_X9_minutesLocked f_X9_minutesLocked
      simp (disch := first | omega | exact hb _) only [pl_0, pl_1, pl_2, pl_3, pl_4, pl_5, pl_6, pl_7, pl_8, pl_9, pl_10, pl_11, pl_12, pl_13, pl_25, pl_30, pl_36, pl_50, pl_60, pl_98, pl_99, pl_100, pl_102, pl_104, pl_105, pl_108, pl_111, pl_112, pl_116, pl_119, pl_166, pl_199, pl_202, pl_239, pl_240, pl_480, pl_999, pl_1000, puN_g, puN_p, puN_pt, px_thr0, px_thr1, px_qthr0, px_qthr1, nI_add, pn_mul, pn_c, pn_le, pn_lt, pn_eq, px_of, px_sets, px_ofh, px_seth, px_qof, px_qsets, px_qofh, px_qseth, pun_s, pun_n, ↓reduceIte, g1]
      simp
theorem pAsk_otherHolder (hR : pOk B c l s) (M : tvM) (x1 x2 : Int32) : pAsk (puC M 1 c l) s (f_X8_otherHolder (puC M 1 c l) x1 x2) (fun m => f_X9_otherHolder m x1 x2) (fun m => q_X9_otherHolder m x1 x2) [("java/lang/IndexOutOfBoundsException", 1), ("java/lang/IllegalArgumentException", 2)] := by
  obtain ⟨⟨hb, hs, hh, hx, he, hsum⟩, ⟨hc, hch, hcx, hcl⟩⟩ := id hR
  have hs' := hs
  obtain ⟨s0, s1, s2, s3, s45, s67, s8, s9, s10, s11, sB⟩ := hs
  have hc' := hc
  obtain ⟨c04, c05, c06, c07, cl, c10, c11, c20, c60⟩ := hc
  by_cases h1 : ∃ i, i < s 10 ∧ x1 = nI i
  · obtain ⟨i, hi, rfl⟩ := h1
    have g1 : ∀ M' t, f_X9_isBox (puN M' s t) (nI i) = nI 1 := fun M' t => px_box1 M' s t s10 hi
    have k1 := pc_has1 M 1 l c60 s10 hi
    obtain ⟨x7, x8, x9, _⟩ := hcx i hi
    by_cases q : nI (s (36 + 13 * i + 0)) = x2
    · refine Or.inl ⟨nI (s (36 + 13 * i + 1)), ?_, fun M' t => ?_⟩
      · unfold f_X8_otherHolder f_X8_refusalOfBoxNumber
        rw [k1, if_neg p10, pRef_0, if_pos rfl, pc_belongs M 1 l c60 s10 hi, x7, if_pos q, if_neg p10, pc_partner M 1 l c60 s10 hi, x7, if_pos q, x8]
      · unfold q_X9_otherHolder f_X9_otherHolder q_X9_isOf f_X9_isOf
        simp (disch := first | omega | exact hb _) only [pl_0, pl_1, pl_2, pl_3, pl_4, pl_5, pl_6, pl_7, pl_8, pl_9, pl_10, pl_11, pl_12, pl_13, pl_25, pl_30, pl_36, pl_50, pl_60, pl_98, pl_99, pl_100, pl_102, pl_104, pl_105, pl_108, pl_111, pl_112, pl_116, pl_119, pl_166, pl_199, pl_202, pl_239, pl_240, pl_480, pl_999, pl_1000, puN_g, puN_p, puN_pt, px_thr0, px_thr1, px_qthr0, px_qthr1, nI_add, pn_mul, pn_c, pn_le, pn_lt, pn_eq, px_of, px_sets, px_ofh, px_seth, px_qof, px_qsets, px_qofh, px_qseth, pun_s, pun_n, ↓reduceIte, g1, if_pos q]
        simp [q]
    · by_cases q2 : nI (s (36 + 13 * i + 1)) = x2
      · refine Or.inl ⟨nI (s (36 + 13 * i + 0)), ?_, fun M' t => ?_⟩
        · unfold f_X8_otherHolder f_X8_refusalOfBoxNumber
          rw [k1, if_neg p10, pRef_0, if_pos rfl, pc_belongs M 1 l c60 s10 hi, x7, if_neg q, x8, if_pos q2, if_neg p10, pc_partner M 1 l c60 s10 hi, x7, if_neg q]
        · unfold q_X9_otherHolder f_X9_otherHolder q_X9_isOf f_X9_isOf
          simp (disch := first | omega | exact hb _) only [pl_0, pl_1, pl_2, pl_3, pl_4, pl_5, pl_6, pl_7, pl_8, pl_9, pl_10, pl_11, pl_12, pl_13, pl_25, pl_30, pl_36, pl_50, pl_60, pl_98, pl_99, pl_100, pl_102, pl_104, pl_105, pl_108, pl_111, pl_112, pl_116, pl_119, pl_166, pl_199, pl_202, pl_239, pl_240, pl_480, pl_999, pl_1000, puN_g, puN_p, puN_pt, px_thr0, px_thr1, px_qthr0, px_qthr1, nI_add, pn_mul, pn_c, pn_le, pn_lt, pn_eq, px_of, px_sets, px_ofh, px_seth, px_qof, px_qsets, px_qofh, px_qseth, pun_s, pun_n, ↓reduceIte, g1, if_neg q, if_pos q2]
          simp [q, q2]
      · refine Or.inr ⟨("java/lang/IllegalArgumentException", 2), by simp, ?_, fun M' t => ?_⟩
        · unfold f_X8_otherHolder f_X8_refusalOfBoxNumber
          rw [k1, if_neg p10, pRef_0, if_pos rfl, pc_belongs M 1 l c60 s10 hi, x7, if_neg q, x8, if_neg q2, if_pos rfl]
        · unfold q_X9_otherHolder f_X9_otherHolder q_X9_isOf f_X9_isOf
          simp (disch := first | omega | exact hb _) only [pl_0, pl_1, pl_2, pl_3, pl_4, pl_5, pl_6, pl_7, pl_8, pl_9, pl_10, pl_11, pl_12, pl_13, pl_25, pl_30, pl_36, pl_50, pl_60, pl_98, pl_99, pl_100, pl_102, pl_104, pl_105, pl_108, pl_111, pl_112, pl_116, pl_119, pl_166, pl_199, pl_202, pl_239, pl_240, pl_480, pl_999, pl_1000, puN_g, puN_p, puN_pt, px_thr0, px_thr1, px_qthr0, px_qthr1, nI_add, pn_mul, pn_c, pn_le, pn_lt, pn_eq, px_of, px_sets, px_ofh, px_seth, px_qof, px_qsets, px_qofh, px_qseth, pun_s, pun_n, ↓reduceIte, g1, if_neg q, if_neg q2]
          simp [q, q2]
  · have g1 : ∀ M' t, f_X9_isBox (puN M' s t) x1 = nI 0 := fun M' t => px_box0 M' s t x1 s10 h1
    refine Or.inr ⟨("java/lang/IndexOutOfBoundsException", 1), by simp, ?_, fun M' t => ?_⟩
    · unfold f_X8_otherHolder f_X8_refusalOfBoxNumber
      rw [pc_has0 M 1 l c60 s10 h1, if_pos rfl, pRef_1]
      simp
    · unfold q_X9_otherHolder f_X9_otherHolder
      simp (disch := first | omega | exact hb _) only [pl_0, pl_1, pl_2, pl_3, pl_4, pl_5, pl_6, pl_7, pl_8, pl_9, pl_10, pl_11, pl_12, pl_13, pl_25, pl_30, pl_36, pl_50, pl_60, pl_98, pl_99, pl_100, pl_102, pl_104, pl_105, pl_108, pl_111, pl_112, pl_116, pl_119, pl_166, pl_199, pl_202, pl_239, pl_240, pl_480, pl_999, pl_1000, puN_g, puN_p, puN_pt, px_thr0, px_thr1, px_qthr0, px_qthr1, nI_add, pn_mul, pn_c, pn_le, pn_lt, pn_eq, px_of, px_sets, px_ofh, px_seth, px_qof, px_qsets, px_qofh, px_qseth, pun_s, pun_n, ↓reduceIte, g1]
      simp
theorem pAsk_status (hR : pOk B c l s) (M : tvM) (x1 : Int32) : pAsk (puC M 1 c l) s (f_X8_status (puC M 1 c l) x1) (fun m => f_X9_status m x1) (fun m => q_X9_status m x1) [("java/lang/IndexOutOfBoundsException", 1)] := by
  obtain ⟨⟨hb, hs, hh, hx, he, hsum⟩, ⟨hc, hch, hcx, hcl⟩⟩ := id hR
  have hs' := hs
  obtain ⟨s0, s1, s2, s3, s45, s67, s8, s9, s10, s11, sB⟩ := hs
  have hc' := hc
  obtain ⟨c04, c05, c06, c07, cl, c10, c11, c20, c60⟩ := hc
  by_cases h1 : ∃ i, i < s 10 ∧ x1 = nI i
  · obtain ⟨i, hi, rfl⟩ := h1
    have g1 : ∀ M' t, f_X9_isBox (puN M' s t) (nI i) = nI 1 := fun M' t => px_box1 M' s t s10 hi
    have k1 := pc_has1 M 1 l c60 s10 hi
    have h3 : s (36 + 13 * i + 3) ≤ 3 := (hx i (by omega)).2.1
    obtain ⟨x7, x8, x9, xst, _⟩ := hcx i hi
    have ec : ((pSt (s (36 + 13 * i + 3))).toUInt32 % 65536).toInt32 = pSt (s (36 + 13 * i + 3)) := pSt_tnc _
    refine Or.inl ⟨pSt (s (36 + 13 * i + 3)), ?_, fun M' t => ?_⟩
    · unfold f_X8_status f_X8_refusalOfBoxNumber
      rw [k1, if_neg p10, pRef_0, if_pos rfl, pc_status M 1 l c60 s10 hi, xst, pSt_tnc]
    · unfold q_X9_status f_X9_status
      simp (disch := first | omega | exact hb _) only [pl_0, pl_1, pl_2, pl_3, pl_4, pl_5, pl_6, pl_7, pl_8, pl_9, pl_10, pl_11, pl_12, pl_13, pl_25, pl_30, pl_36, pl_50, pl_60, pl_98, pl_99, pl_100, pl_102, pl_104, pl_105, pl_108, pl_111, pl_112, pl_116, pl_119, pl_166, pl_199, pl_202, pl_239, pl_240, pl_480, pl_999, pl_1000, puN_g, puN_p, puN_pt, px_thr0, px_thr1, px_qthr0, px_qthr1, nI_add, pn_mul, pn_c, pn_le, pn_lt, pn_eq, px_of, px_sets, px_ofh, px_seth, px_qof, px_qsets, px_qofh, px_qseth, pun_s, pun_n, ↓reduceIte, g1, px_sign1, px_sign2, ec]
      simp
  · have g1 : ∀ M' t, f_X9_isBox (puN M' s t) x1 = nI 0 := fun M' t => px_box0 M' s t x1 s10 h1
    refine Or.inr ⟨_, List.mem_singleton.2 rfl, ?_, fun M' t => ?_⟩
    · unfold f_X8_status f_X8_refusalOfBoxNumber
      rw [pc_has0 M 1 l c60 s10 h1, if_pos rfl, pRef_1]
      simp
    · unfold q_X9_status f_X9_status
      simp (disch := first | omega | exact hb _) only [pl_0, pl_1, pl_2, pl_3, pl_4, pl_5, pl_6, pl_7, pl_8, pl_9, pl_10, pl_11, pl_12, pl_13, pl_25, pl_30, pl_36, pl_50, pl_60, pl_98, pl_99, pl_100, pl_102, pl_104, pl_105, pl_108, pl_111, pl_112, pl_116, pl_119, pl_166, pl_199, pl_202, pl_239, pl_240, pl_480, pl_999, pl_1000, puN_g, puN_p, puN_pt, px_thr0, px_thr1, px_qthr0, px_qthr1, nI_add, pn_mul, pn_c, pn_le, pn_lt, pn_eq, px_of, px_sets, px_ofh, px_seth, px_qof, px_qsets, px_qofh, px_qseth, pun_s, pun_n, ↓reduceIte, g1]
      simp
theorem pAsk_firstHolder (hR : pOk B c l s) (M : tvM) (x1 : Int32) : pAsk (puC M 1 c l) s (f_X8_firstHolder (puC M 1 c l) x1) (fun m => f_X9_firstHolder m x1) (fun m => q_X9_firstHolder m x1) [("java/lang/IndexOutOfBoundsException", 1), ("java/util/NoSuchElementException", 2)] := by
  obtain ⟨⟨hb, hs, hh, hx, he, hsum⟩, ⟨hc, hch, hcx, hcl⟩⟩ := id hR
  have hs' := hs
  obtain ⟨s0, s1, s2, s3, s45, s67, s8, s9, s10, s11, sB⟩ := hs
  have hc' := hc
  obtain ⟨c04, c05, c06, c07, cl, c10, c11, c20, c60⟩ := hc
  by_cases h1 : ∃ i, i < s 10 ∧ x1 = nI i
  · obtain ⟨i, hi, rfl⟩ := h1
    have g1 : ∀ M' t, f_X9_isBox (puN M' s t) (nI i) = nI 1 := fun M' t => px_box1 M' s t s10 hi
    have k1 := pc_has1 M 1 l c60 s10 hi
    have h3 : s (36 + 13 * i + 3) ≤ 3 := (hx i (by omega)).2.1
    obtain ⟨x7, x8, x9, xst, xf, _⟩ := hcx i hi
    by_cases q : s (36 + 13 * i + 3) = 1
    · refine Or.inl ⟨nI (s (36 + 13 * i + 4)), ?_, fun M' t => ?_⟩
      · unfold f_X8_firstHolder f_X8_refusalUnless
        rw [k1, if_neg p10, pc_status M 1 l c60 s10 hi, xst, pSt_tnc, if_pos ((pSt_eq _ h3).2.1.2 q), pRef_0, if_pos rfl, pc_first M 1 l c60 s10 hi, xf q]
      · unfold q_X9_firstHolder f_X9_firstHolder
        simp (disch := first | omega | exact hb _) only [pl_0, pl_1, pl_2, pl_3, pl_4, pl_5, pl_6, pl_7, pl_8, pl_9, pl_10, pl_11, pl_12, pl_13, pl_25, pl_30, pl_36, pl_50, pl_60, pl_98, pl_99, pl_100, pl_102, pl_104, pl_105, pl_108, pl_111, pl_112, pl_116, pl_119, pl_166, pl_199, pl_202, pl_239, pl_240, pl_480, pl_999, pl_1000, puN_g, puN_p, puN_pt, px_thr0, px_thr1, px_qthr0, px_qthr1, nI_add, pn_mul, pn_c, pn_le, pn_lt, pn_eq, px_of, px_sets, px_ofh, px_seth, px_qof, px_qsets, px_qofh, px_qseth, pun_s, pun_n, ↓reduceIte, g1, if_pos q]
        simp [q]
    · refine Or.inr ⟨("java/util/NoSuchElementException", 2), by simp, ?_, fun M' t => ?_⟩
      · unfold f_X8_firstHolder f_X8_refusalUnless
        rw [k1, if_neg p10, pc_status M 1 l c60 s10 hi, xst, pSt_tnc, if_neg (fun e => q ((pSt_eq _ h3).2.1.1 e)), pRef_5]
        simp
      · unfold q_X9_firstHolder f_X9_firstHolder
        simp (disch := first | omega | exact hb _) only [pl_0, pl_1, pl_2, pl_3, pl_4, pl_5, pl_6, pl_7, pl_8, pl_9, pl_10, pl_11, pl_12, pl_13, pl_25, pl_30, pl_36, pl_50, pl_60, pl_98, pl_99, pl_100, pl_102, pl_104, pl_105, pl_108, pl_111, pl_112, pl_116, pl_119, pl_166, pl_199, pl_202, pl_239, pl_240, pl_480, pl_999, pl_1000, puN_g, puN_p, puN_pt, px_thr0, px_thr1, px_qthr0, px_qthr1, nI_add, pn_mul, pn_c, pn_le, pn_lt, pn_eq, px_of, px_sets, px_ofh, px_seth, px_qof, px_qsets, px_qofh, px_qseth, pun_s, pun_n, ↓reduceIte, g1, if_neg q]
        simp [q]
  · have g1 : ∀ M' t, f_X9_isBox (puN M' s t) x1 = nI 0 := fun M' t => px_box0 M' s t x1 s10 h1
    refine Or.inr ⟨("java/lang/IndexOutOfBoundsException", 1), by simp, ?_, fun M' t => ?_⟩
    · unfold f_X8_firstHolder f_X8_refusalUnless
      rw [pc_has0 M 1 l c60 s10 h1, if_pos rfl, pRef_1]
      simp
    · unfold q_X9_firstHolder f_X9_firstHolder
      simp (disch := first | omega | exact hb _) only [pl_0, pl_1, pl_2, pl_3, pl_4, pl_5, pl_6, pl_7, pl_8, pl_9, pl_10, pl_11, pl_12, pl_13, pl_25, pl_30, pl_36, pl_50, pl_60, pl_98, pl_99, pl_100, pl_102, pl_104, pl_105, pl_108, pl_111, pl_112, pl_116, pl_119, pl_166, pl_199, pl_202, pl_239, pl_240, pl_480, pl_999, pl_1000, puN_g, puN_p, puN_pt, px_thr0, px_thr1, px_qthr0, px_qthr1, nI_add, pn_mul, pn_c, pn_le, pn_lt, pn_eq, px_of, px_sets, px_ofh, px_seth, px_qof, px_qsets, px_qofh, px_qseth, pun_s, pun_n, ↓reduceIte, g1]
      simp
theorem pAsk_remainingDelay (hR : pOk B c l s) (M : tvM) (x1 : Int32) : pAsk (puC M 1 c l) s (f_X8_remainingDelay (puC M 1 c l) x1) (fun m => f_X9_remainingDelay m x1) (fun m => q_X9_remainingDelay m x1) [("java/lang/IndexOutOfBoundsException", 1), ("java/util/NoSuchElementException", 2)] := by
  obtain ⟨⟨hb, hs, hh, hx, he, hsum⟩, ⟨hc, hch, hcx, hcl⟩⟩ := id hR
  have hs' := hs
  obtain ⟨s0, s1, s2, s3, s45, s67, s8, s9, s10, s11, sB⟩ := hs
  have hc' := hc
  obtain ⟨c04, c05, c06, c07, cl, c10, c11, c20, c60⟩ := hc
  by_cases h1 : ∃ i, i < s 10 ∧ x1 = nI i
  · obtain ⟨i, hi, rfl⟩ := h1
    have g1 : ∀ M' t, f_X9_isBox (puN M' s t) (nI i) = nI 1 := fun M' t => px_box1 M' s t s10 hi
    have k1 := pc_has1 M 1 l c60 s10 hi
    have h3 : s (36 + 13 * i + 3) ≤ 3 := (hx i (by omega)).2.1
    obtain ⟨x7, x8, x9, xst, xf, xs, xr, _⟩ := hcx i hi
    by_cases q : s (36 + 13 * i + 3) = 2
    · refine Or.inl ⟨nI (s (36 + 13 * i + 6)), ?_, fun M' t => ?_⟩
      · unfold f_X8_remainingDelay f_X8_refusalUnless
        rw [k1, if_neg p10, pc_status M 1 l c60 s10 hi, xst, pSt_tnc, if_pos ((pSt_eq _ h3).2.2.1.2 q), pRef_0, if_pos rfl, pc_rem M 1 l c60 s10 hi, xr q]
      · unfold q_X9_remainingDelay f_X9_remainingDelay q_X9_isNotPending f_X9_isNotPending
        simp (disch := first | omega | exact hb _) only [pl_0, pl_1, pl_2, pl_3, pl_4, pl_5, pl_6, pl_7, pl_8, pl_9, pl_10, pl_11, pl_12, pl_13, pl_25, pl_30, pl_36, pl_50, pl_60, pl_98, pl_99, pl_100, pl_102, pl_104, pl_105, pl_108, pl_111, pl_112, pl_116, pl_119, pl_166, pl_199, pl_202, pl_239, pl_240, pl_480, pl_999, pl_1000, puN_g, puN_p, puN_pt, px_thr0, px_thr1, px_qthr0, px_qthr1, nI_add, pn_mul, pn_c, pn_le, pn_lt, pn_eq, px_of, px_sets, px_ofh, px_seth, px_qof, px_qsets, px_qofh, px_qseth, pun_s, pun_n, ↓reduceIte, g1, if_pos q]
        simp [q]
        simp (disch := first | omega | exact hb _) only [pl_0, pl_1, pl_2, pl_3, pl_4, pl_5, pl_6, pl_7, pl_8, pl_9, pl_10, pl_11, pl_12, pl_13, pl_25, pl_30, pl_36, pl_50, pl_60, pl_98, pl_99, pl_100, pl_102, pl_104, pl_105, pl_108, pl_111, pl_112, pl_116, pl_119, pl_166, pl_199, pl_202, pl_239, pl_240, pl_480, pl_999, pl_1000, puN_g, puN_p, puN_pt, px_thr0, px_thr1, px_qthr0, px_qthr1, nI_add, pn_mul, pn_c, pn_le, pn_lt, pn_eq, px_of, px_sets, px_ofh, px_seth, px_qof, px_qsets, px_qofh, px_qseth, pun_s, pun_n, ↓reduceIte]
    · refine Or.inr ⟨("java/util/NoSuchElementException", 2), by simp, ?_, fun M' t => ?_⟩
      · unfold f_X8_remainingDelay f_X8_refusalUnless
        rw [k1, if_neg p10, pc_status M 1 l c60 s10 hi, xst, pSt_tnc, if_neg (fun e => q ((pSt_eq _ h3).2.2.1.1 e)), pRef_5]
        simp
      · unfold q_X9_remainingDelay f_X9_remainingDelay q_X9_isNotPending f_X9_isNotPending
        simp (disch := first | omega | exact hb _) only [pl_0, pl_1, pl_2, pl_3, pl_4, pl_5, pl_6, pl_7, pl_8, pl_9, pl_10, pl_11, pl_12, pl_13, pl_25, pl_30, pl_36, pl_50, pl_60, pl_98, pl_99, pl_100, pl_102, pl_104, pl_105, pl_108, pl_111, pl_112, pl_116, pl_119, pl_166, pl_199, pl_202, pl_239, pl_240, pl_480, pl_999, pl_1000, puN_g, puN_p, puN_pt, px_thr0, px_thr1, px_qthr0, px_qthr1, nI_add, pn_mul, pn_c, pn_le, pn_lt, pn_eq, px_of, px_sets, px_ofh, px_seth, px_qof, px_qsets, px_qofh, px_qseth, pun_s, pun_n, ↓reduceIte, g1, if_neg q]
        simp [q]
        exact fun e => absurd e (by decide)
  · have g1 : ∀ M' t, f_X9_isBox (puN M' s t) x1 = nI 0 := fun M' t => px_box0 M' s t x1 s10 h1
    refine Or.inr ⟨("java/lang/IndexOutOfBoundsException", 1), by simp, ?_, fun M' t => ?_⟩
    · unfold f_X8_remainingDelay f_X8_refusalUnless
      rw [pc_has0 M 1 l c60 s10 h1, if_pos rfl, pRef_1]
      simp
    · unfold q_X9_remainingDelay f_X9_remainingDelay q_X9_isNotPending f_X9_isNotPending
      simp (disch := first | omega | exact hb _) only [pl_0, pl_1, pl_2, pl_3, pl_4, pl_5, pl_6, pl_7, pl_8, pl_9, pl_10, pl_11, pl_12, pl_13, pl_25, pl_30, pl_36, pl_50, pl_60, pl_98, pl_99, pl_100, pl_102, pl_104, pl_105, pl_108, pl_111, pl_112, pl_116, pl_119, pl_166, pl_199, pl_202, pl_239, pl_240, pl_480, pl_999, pl_1000, puN_g, puN_p, puN_pt, px_thr0, px_thr1, px_qthr0, px_qthr1, nI_add, pn_mul, pn_c, pn_le, pn_lt, pn_eq, px_of, px_sets, px_ofh, px_seth, px_qof, px_qsets, px_qofh, px_qseth, pun_s, pun_n, ↓reduceIte, g1]
      simp
theorem pAsk_pearls (hR : pOk B c l s) (M : tvM) (x1 : Int32) : pAsk (puC M 1 c l) s (f_X8_pearls (puC M 1 c l) x1) (fun m => f_X9_pearls m x1) (fun m => q_X9_pearls m x1) [("java/lang/IndexOutOfBoundsException", 1)] := by
  obtain ⟨⟨hb, hs, hh, hx, he, hsum⟩, ⟨hc, hch, hcx, hcl⟩⟩ := id hR
  have hs' := hs
  obtain ⟨s0, s1, s2, s3, s45, s67, s8, s9, s10, s11, sB⟩ := hs
  have hc' := hc
  obtain ⟨c04, c05, c06, c07, cl, c10, c11, c20, c60⟩ := hc
  by_cases h1 : ∃ i, i < s 10 ∧ x1 = nI i
  · obtain ⟨i, hi, rfl⟩ := h1
    have g1 : ∀ M' t, f_X9_isBox (puN M' s t) (nI i) = nI 1 := fun M' t => px_box1 M' s t s10 hi
    have k1 := pc_has1 M 1 l c60 s10 hi
    obtain ⟨x7, x8, x9, xst, xf, xs, xr, xp, _⟩ := hcx i hi
    refine Or.inl ⟨nI (s (36 + 13 * i + 7)), ?_, fun M' t => ?_⟩
    · unfold f_X8_pearls f_X8_refusalOfBoxNumber
      rw [k1, if_neg p10, pRef_0, if_pos rfl, pc_pearls M 1 l c60 s10 hi, xp]
    · unfold q_X9_pearls f_X9_pearls
      simp (disch := first | omega | exact hb _) only [pl_0, pl_1, pl_2, pl_3, pl_4, pl_5, pl_6, pl_7, pl_8, pl_9, pl_10, pl_11, pl_12, pl_13, pl_25, pl_30, pl_36, pl_50, pl_60, pl_98, pl_99, pl_100, pl_102, pl_104, pl_105, pl_108, pl_111, pl_112, pl_116, pl_119, pl_166, pl_199, pl_202, pl_239, pl_240, pl_480, pl_999, pl_1000, puN_g, puN_p, puN_pt, px_thr0, px_thr1, px_qthr0, px_qthr1, nI_add, pn_mul, pn_c, pn_le, pn_lt, pn_eq, px_of, px_sets, px_ofh, px_seth, px_qof, px_qsets, px_qofh, px_qseth, pun_s, pun_n, ↓reduceIte, g1]
      simp
  · have g1 : ∀ M' t, f_X9_isBox (puN M' s t) x1 = nI 0 := fun M' t => px_box0 M' s t x1 s10 h1
    refine Or.inr ⟨_, List.mem_singleton.2 rfl, ?_, fun M' t => ?_⟩
    · unfold f_X8_pearls f_X8_refusalOfBoxNumber
      rw [pc_has0 M 1 l c60 s10 h1, if_pos rfl, pRef_1]
      simp
    · unfold q_X9_pearls f_X9_pearls
      simp (disch := first | omega | exact hb _) only [pl_0, pl_1, pl_2, pl_3, pl_4, pl_5, pl_6, pl_7, pl_8, pl_9, pl_10, pl_11, pl_12, pl_13, pl_25, pl_30, pl_36, pl_50, pl_60, pl_98, pl_99, pl_100, pl_102, pl_104, pl_105, pl_108, pl_111, pl_112, pl_116, pl_119, pl_166, pl_199, pl_202, pl_239, pl_240, pl_480, pl_999, pl_1000, puN_g, puN_p, puN_pt, px_thr0, px_thr1, px_qthr0, px_qthr1, nI_add, pn_mul, pn_c, pn_le, pn_lt, pn_eq, px_of, px_sets, px_ofh, px_seth, px_qof, px_qsets, px_qofh, px_qseth, pun_s, pun_n, ↓reduceIte, g1]
      simp
theorem pn_ix0 {x : Int32} {n : Nat} (hn : n < 2147483648) (h : ¬ ∃ j, j < n ∧ x = nI j) : x < 0 ∨ ¬ x < 0 ∧ ¬ x < nI n ∧ nI n ≤ x := by
  by_cases q : x < 0
  · exact Or.inl q
  · obtain ⟨j, hj, rfl⟩ := pn_nneg q
    refine Or.inr ⟨q, ?_, ?_⟩
    · rw [pn_lt hj hn]; exact fun e => h ⟨j, e, rfl⟩
    · rw [pn_le hn hj]
      exact Nat.le_of_not_lt fun e => h ⟨j, e, rfl⟩
theorem pAsk_pearl (hR : pOk B c l s) (M : tvM) (x1 x2 : Int32) : pAsk (puC M 1 c l) s (f_X8_pearl (puC M 1 c l) x1 x2) (fun m => f_X9_pearl m x1 x2) (fun m => q_X9_pearl m x1 x2) [("java/lang/IndexOutOfBoundsException", 1), ("java/util/NoSuchElementException", 2)] := by
  obtain ⟨⟨hb, hs, hh, hx, he, hsum⟩, ⟨hc, hch, hcx, hcl⟩⟩ := id hR
  have hs' := hs
  obtain ⟨s0, s1, s2, s3, s45, s67, s8, s9, s10, s11, sB⟩ := hs
  have hc' := hc
  obtain ⟨c04, c05, c06, c07, cl, c10, c11, c20, c60⟩ := hc
  by_cases h1 : ∃ i, i < s 10 ∧ x1 = nI i
  · obtain ⟨i, hi, rfl⟩ := h1
    have g1 : ∀ M' t, f_X9_isBox (puN M' s t) (nI i) = nI 1 := fun M' t => px_box1 M' s t s10 hi
    have k1 := pc_has1 M 1 l c60 s10 hi
    have hp5 : s (36 + 13 * i + 7) ≤ 5 := (hx i (by omega)).2.2.2.2.1
    obtain ⟨x7, x8, x9, xst, xf, xs, xr, xp, xv⟩ := hcx i hi
    by_cases h2 : ∃ j, j < s (36 + 13 * i + 7) ∧ x2 = nI j
    · obtain ⟨j, hj, rfl⟩ := h2
      have g2 : ∀ m, f_X9_isIn m (nI j) (nI 0) (nI (s (36 + 13 * i + 7)) - nI 1) = nI 1 := fun m => (px_isIx m (x := nI j) (n := s (36 + 13 * i + 7)) (by omega)).trans (if_pos ⟨j, hj, rfl⟩)
      refine Or.inl ⟨nI (s (36 + 13 * i + (8 + j))), ?_, fun M' t => ?_⟩
      · unfold f_X8_pearl f_X8_refusalOfBoxNumber
        rw [k1, if_neg p10, pRef_0, if_pos rfl, if_neg (pn_neg (by omega)), pc_pearls M 1 l c60 s10 hi, xp, if_pos (by rw [pn_lt (by omega) (by omega)]; exact hj), pc_value M 1 l c60 s10 hi (by omega), xv j hj]
      · unfold q_X9_pearl f_X9_pearl
        simp (disch := first | omega | exact hb _) only [pl_0, pl_1, pl_2, pl_3, pl_4, pl_5, pl_6, pl_7, pl_8, pl_9, pl_10, pl_11, pl_12, pl_13, pl_25, pl_30, pl_36, pl_50, pl_60, pl_98, pl_99, pl_100, pl_102, pl_104, pl_105, pl_108, pl_111, pl_112, pl_116, pl_119, pl_166, pl_199, pl_202, pl_239, pl_240, pl_480, pl_999, pl_1000, puN_g, puN_p, puN_pt, px_thr0, px_thr1, px_qthr0, px_qthr1, nI_add, pn_mul, pn_c, pn_le, pn_lt, pn_eq, px_of, px_sets, px_ofh, px_seth, px_qof, px_qsets, px_qofh, px_qseth, pun_s, pun_n, ↓reduceIte, g1, g2]
        simp
    · have g2 : ∀ m, f_X9_isIn m x2 (nI 0) (nI (s (36 + 13 * i + 7)) - nI 1) = nI 0 := fun m => (px_isIx m (x := x2) (n := s (36 + 13 * i + 7)) (by omega)).trans (if_neg h2)
      refine Or.inr ⟨("java/util/NoSuchElementException", 2), by simp, ?_, fun M' t => ?_⟩
      · unfold f_X8_pearl f_X8_refusalOfBoxNumber
        rw [k1, if_neg p10, pRef_0, if_pos rfl, pc_pearls M 1 l c60 s10 hi, xp]
        rcases pn_ix0 (hb _) h2 with q | ⟨q, q2, _⟩
        · rw [if_pos q]
        · rw [if_neg q, if_neg q2]
      · unfold q_X9_pearl f_X9_pearl
        simp (disch := first | omega | exact hb _) only [pl_0, pl_1, pl_2, pl_3, pl_4, pl_5, pl_6, pl_7, pl_8, pl_9, pl_10, pl_11, pl_12, pl_13, pl_25, pl_30, pl_36, pl_50, pl_60, pl_98, pl_99, pl_100, pl_102, pl_104, pl_105, pl_108, pl_111, pl_112, pl_116, pl_119, pl_166, pl_199, pl_202, pl_239, pl_240, pl_480, pl_999, pl_1000, puN_g, puN_p, puN_pt, px_thr0, px_thr1, px_qthr0, px_qthr1, nI_add, pn_mul, pn_c, pn_le, pn_lt, pn_eq, px_of, px_sets, px_ofh, px_seth, px_qof, px_qsets, px_qofh, px_qseth, pun_s, pun_n, ↓reduceIte, g1, g2]
        simp
  · have g1 : ∀ M' t, f_X9_isBox (puN M' s t) x1 = nI 0 := fun M' t => px_box0 M' s t x1 s10 h1
    refine Or.inr ⟨("java/lang/IndexOutOfBoundsException", 1), by simp, ?_, fun M' t => ?_⟩
    · unfold f_X8_pearl f_X8_refusalOfBoxNumber
      rw [pc_has0 M 1 l c60 s10 h1, if_pos rfl, pRef_1]
      simp
    · unfold q_X9_pearl f_X9_pearl
      simp (disch := first | omega | exact hb _) only [pl_0, pl_1, pl_2, pl_3, pl_4, pl_5, pl_6, pl_7, pl_8, pl_9, pl_10, pl_11, pl_12, pl_13, pl_25, pl_30, pl_36, pl_50, pl_60, pl_98, pl_99, pl_100, pl_102, pl_104, pl_105, pl_108, pl_111, pl_112, pl_116, pl_119, pl_166, pl_199, pl_202, pl_239, pl_240, pl_480, pl_999, pl_1000, puN_g, puN_p, puN_pt, px_thr0, px_thr1, px_qthr0, px_qthr1, nI_add, pn_mul, pn_c, pn_le, pn_lt, pn_eq, px_of, px_sets, px_ofh, px_seth, px_qof, px_qsets, px_qofh, px_qseth, pun_s, pun_n, ↓reduceIte, g1]
      simp
theorem px_event (M' : tvM) (t : Int32) (hs11 : s 11 ≤ 12) (x1 : Int32) {w : Nat} (hw : w < 3) : q_X9_ofEvent (puN M' s t) x1 (nI w) ∧ ((∃ j, j < s 11 ∧ x1 = nI j ∧ f_X9_ofEvent (puN M' s t) x1 (nI w) = (nI (s (166 + 3 * j + w)), puN M' s (nI 0))) ∨ ((¬ ∃ j, j < s 11 ∧ x1 = nI j) ∧ f_X9_ofEvent (puN M' s t) x1 (nI w) = (nI 0, puN M' s (nI 1)))) := by
  unfold q_X9_ofEvent f_X9_ofEvent
  by_cases h2 : ∃ j, j < s 11 ∧ x1 = nI j
  · obtain ⟨j, hj, rfl⟩ := h2
    have g2 : ∀ m, f_X9_isIn m (nI j) 0 (nI (s 11) - 1) = nI 1 := fun m => (px_isIx m (x := nI j) (n := s 11) (by omega)).trans (if_pos ⟨j, hj, rfl⟩)
    have e1 : (166 : Int32) + (3 * nI j) + nI w = nI (166 + 3 * j + w) := by rw [show (3 : Int32) = nI 3 from rfl, pn_mul, show (166 : Int32) = nI 166 from rfl, nI_add, nI_add]
    refine ⟨⟨fun _ => trivial, fun _ => ⟨by rw [e1]; exact vp_in_nI (by omega) (by omega), trivial⟩⟩, Or.inl ⟨j, hj, rfl, ?_⟩⟩
    rw [puN_g, g2, if_neg (by decide), px_thr, pl_0, puN_pt, e1, pn_c (by omega), puN_g]
  · have g2 : ∀ m, f_X9_isIn m x1 0 (nI (s 11) - 1) = nI 0 := fun m => (px_isIx m (x := x1) (n := s 11) (by omega)).trans (if_neg h2)
    refine ⟨⟨fun _ => trivial, fun q => absurd (by rw [puN_g, g2]; rfl) q⟩, Or.inr ⟨h2, ?_⟩⟩
    rw [puN_g, g2, if_pos (show nI 0 = 0 from rfl), px_thrn, pl_1, puN_pt]
    rfl
theorem pc_event (hR : pOk B c l s) (M : tvM) (x1 : Int32) : (∃ j z, j < s 11 ∧ z < 12 ∧ x1 = nI j ∧ f_X4_has (puC M 1 c l) 1 x1 = 1 ∧ f_X4_slotOf (puC M 1 c l) 1 x1 = nI z ∧ c 17 z = nI (s (166 + 3 * j)) ∧ c 18 z = nI (s (166 + 3 * j + 1)) ∧ c 19 z = nI (s (166 + 3 * j + 2))) ∨ ((¬ ∃ j, j < s 11 ∧ x1 = nI j) ∧ f_X4_has (puC M 1 c l) 1 x1 = 0) := by
  obtain ⟨⟨hb, hs, hh, hx, he, hsum⟩, ⟨hc, hch, hcx, hcl⟩⟩ := id hR
  have hs' := hs
  obtain ⟨s0, s1, s2, s3, s45, s67, s8, s9, s10, s11, sB⟩ := hs
  have hc' := hc
  obtain ⟨c04, c05, c06, c07, cl, c10, c11, c20, c60⟩ := hc
  obtain ⟨st, q1, q2, q3, q4⟩ := hcl
  by_cases h2 : ∃ j, j < s 11 ∧ x1 = nI j
  · obtain ⟨j, hj, rfl⟩ := h2
    obtain ⟨w1, w2, w3⟩ := q4 j hj
    refine Or.inl ⟨j, (st + j) % 12, hj, Nat.mod_lt _ (by omega), rfl, ?_, pc_slot M 1 l q2 q1 (by omega), w1, w2, w3⟩
    unfold f_X4_has
    rw [if_neg (pn_neg (by omega)), puC_g16, q3, if_neg (by rw [pn_le (by omega) (by omega)]; omega)]
  · refine Or.inr ⟨h2, ?_⟩
    unfold f_X4_has
    rw [puC_g16, q3]
    rcases pn_ix0 (hb _) h2 with q | ⟨q, _, q2⟩
    · rw [if_pos q]
    · rw [if_neg q, if_pos q2]

theorem pAsk_eventKind (hR : pOk B c l s) (M : tvM) (x1 : Int32) : pAsk (puC M 1 c l) s (f_X8_eventKind (puC M 1 c l) x1) (fun m => f_X9_eventKind m x1) (fun m => q_X9_eventKind m x1) [("java/util/NoSuchElementException", 1)] := by
  obtain ⟨⟨hb, hs, hh, hx, he, hsum⟩, ⟨hc, hch, hcx, hcl⟩⟩ := id hR
  have hs' := hs
  obtain ⟨s0, s1, s2, s3, s45, s67, s8, s9, s10, s11, sB⟩ := hs
  have hc' := hc
  obtain ⟨c04, c05, c06, c07, cl, c10, c11, c20, c60⟩ := hc
  rcases pc_event hR M x1 with ⟨j, z, hj, hz, rfl, a1, a2, a3, a4, a5⟩ | ⟨h2, a1⟩
  · refine Or.inl ⟨nI (s (166 + 3 * j )), ?_, fun M' t => ?_⟩
    · unfold f_X8_eventKind f_X8_refusalOfEvent f_X4_kindOf
      rw [a1, if_neg p10, pRef_0, if_pos rfl, a2, pn_c (by omega), puC_g17, a3, pc_tnc _ (he j (by omega)).1]
    · obtain ⟨q, r⟩ := px_event M' t s11 (nI j) (w := 0) (by omega)
      rcases r with ⟨j2, hj2, ej, r⟩ | ⟨n, r⟩
      · have : j = j2 := (pn_eq (by omega) (by omega)).1 ej
        subst this
        refine ⟨⟨q, trivial⟩, ?_⟩
        show f_X9_eventKind (puN M' s t) (nI j) = _
        unfold f_X9_eventKind
        rw [show f_X9_ofEvent (puN M' s t) (nI j) 0 = (nI (s (166 + 3 * j + 0)), puN M' s (nI 0)) from r]
        dsimp only
        rw [Nat.add_zero, pc_chr _ (he j (by omega)).1]
      · exact absurd ⟨j, hj, rfl⟩ n
  · refine Or.inr ⟨_, List.mem_singleton.2 rfl, ?_, fun M' t => ?_⟩
    · unfold f_X8_eventKind f_X8_refusalOfEvent
      rw [a1, if_pos rfl, pRef_5]
      simp
    · obtain ⟨q, r⟩ := px_event M' t s11 x1 (w := 0) (by omega)
      rcases r with ⟨j2, hj2, ej, r⟩ | ⟨n, r⟩
      · exact absurd ⟨j2, hj2, ej⟩ h2
      · refine ⟨⟨q, trivial⟩, ?_⟩
        show f_X9_eventKind (puN M' s t) x1 = _
        unfold f_X9_eventKind
        rw [show f_X9_ofEvent (puN M' s t) x1 0 = (nI 0, puN M' s (nI 1)) from r]
        rfl
theorem pAsk_eventTime (hR : pOk B c l s) (M : tvM) (x1 : Int32) : pAsk (puC M 1 c l) s (f_X8_eventTime (puC M 1 c l) x1) (fun m => f_X9_eventTime m x1) (fun m => q_X9_eventTime m x1) [("java/util/NoSuchElementException", 1)] := by
  obtain ⟨⟨hb, hs, hh, hx, he, hsum⟩, ⟨hc, hch, hcx, hcl⟩⟩ := id hR
  have hs' := hs
  obtain ⟨s0, s1, s2, s3, s45, s67, s8, s9, s10, s11, sB⟩ := hs
  have hc' := hc
  obtain ⟨c04, c05, c06, c07, cl, c10, c11, c20, c60⟩ := hc
  rcases pc_event hR M x1 with ⟨j, z, hj, hz, rfl, a1, a2, a3, a4, a5⟩ | ⟨h2, a1⟩
  · refine Or.inl ⟨nI (s (166 + 3 * j + 1)), ?_, fun M' t => ?_⟩
    · unfold f_X8_eventTime f_X8_refusalOfEvent f_X4_timeOf
      rw [a1, if_neg p10, pRef_0, if_pos rfl, a2, pn_c (by omega), puC_g18, a4]
    · obtain ⟨q, r⟩ := px_event M' t s11 (nI j) (w := 1) (by omega)
      rcases r with ⟨j2, hj2, ej, r⟩ | ⟨n, r⟩
      · have : j = j2 := (pn_eq (by omega) (by omega)).1 ej
        subst this
        refine ⟨⟨q, trivial⟩, ?_⟩
        show f_X9_eventTime (puN M' s t) (nI j) = _
        unfold f_X9_eventTime
        rw [show f_X9_ofEvent (puN M' s t) (nI j) 1 = (nI (s (166 + 3 * j + 1)), puN M' s (nI 0)) from r]
      · exact absurd ⟨j, hj, rfl⟩ n
  · refine Or.inr ⟨_, List.mem_singleton.2 rfl, ?_, fun M' t => ?_⟩
    · unfold f_X8_eventTime f_X8_refusalOfEvent
      rw [a1, if_pos rfl, pRef_5]
      simp
    · obtain ⟨q, r⟩ := px_event M' t s11 x1 (w := 1) (by omega)
      rcases r with ⟨j2, hj2, ej, r⟩ | ⟨n, r⟩
      · exact absurd ⟨j2, hj2, ej⟩ h2
      · refine ⟨⟨q, trivial⟩, ?_⟩
        show f_X9_eventTime (puN M' s t) x1 = _
        unfold f_X9_eventTime
        rw [show f_X9_ofEvent (puN M' s t) x1 1 = (nI 0, puN M' s (nI 1)) from r]
theorem pAsk_eventNumber (hR : pOk B c l s) (M : tvM) (x1 : Int32) : pAsk (puC M 1 c l) s (f_X8_eventNumber (puC M 1 c l) x1) (fun m => f_X9_eventNumber m x1) (fun m => q_X9_eventNumber m x1) [("java/util/NoSuchElementException", 1)] := by
  obtain ⟨⟨hb, hs, hh, hx, he, hsum⟩, ⟨hc, hch, hcx, hcl⟩⟩ := id hR
  have hs' := hs
  obtain ⟨s0, s1, s2, s3, s45, s67, s8, s9, s10, s11, sB⟩ := hs
  have hc' := hc
  obtain ⟨c04, c05, c06, c07, cl, c10, c11, c20, c60⟩ := hc
  rcases pc_event hR M x1 with ⟨j, z, hj, hz, rfl, a1, a2, a3, a4, a5⟩ | ⟨h2, a1⟩
  · refine Or.inl ⟨nI (s (166 + 3 * j + 2)), ?_, fun M' t => ?_⟩
    · unfold f_X8_eventNumber f_X8_refusalOfEvent f_X4_numberOf
      rw [a1, if_neg p10, pRef_0, if_pos rfl, a2, pn_c (by omega), puC_g19, a5]
    · obtain ⟨q, r⟩ := px_event M' t s11 (nI j) (w := 2) (by omega)
      rcases r with ⟨j2, hj2, ej, r⟩ | ⟨n, r⟩
      · have : j = j2 := (pn_eq (by omega) (by omega)).1 ej
        subst this
        refine ⟨⟨q, trivial⟩, ?_⟩
        show f_X9_eventNumber (puN M' s t) (nI j) = _
        unfold f_X9_eventNumber
        rw [show f_X9_ofEvent (puN M' s t) (nI j) 2 = (nI (s (166 + 3 * j + 2)), puN M' s (nI 0)) from r]
      · exact absurd ⟨j, hj, rfl⟩ n
  · refine Or.inr ⟨_, List.mem_singleton.2 rfl, ?_, fun M' t => ?_⟩
    · unfold f_X8_eventNumber f_X8_refusalOfEvent
      rw [a1, if_pos rfl, pRef_5]
      simp
    · obtain ⟨q, r⟩ := px_event M' t s11 x1 (w := 2) (by omega)
      rcases r with ⟨j2, hj2, ej, r⟩ | ⟨n, r⟩
      · exact absurd ⟨j2, hj2, ej⟩ h2
      · refine ⟨⟨q, trivial⟩, ?_⟩
        show f_X9_eventNumber (puN M' s t) x1 = _
        unfold f_X9_eventNumber
        rw [show f_X9_ofEvent (puN M' s t) x1 2 = (nI 0, puN M' s (nI 1)) from r]
end
