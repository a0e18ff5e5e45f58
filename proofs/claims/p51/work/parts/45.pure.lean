/-! ===== fourth: boxes close ===== -/
def pOv (s : Nat → Nat) (i : Nat) : Prop := (s (36 + 13 * i + 3) = 1 ∧ 5 ≤ s 0 - s (36 + 13 * i + 5)) ∨ (s (36 + 13 * i + 3) = 3 ∧ 10 ≤ s 0 - s (36 + 13 * i + 5))
theorem pc_over {B : Nat} {c : Nat → Nat → Int32} {l : Int64} {s : Nat → Nat} {i : Nat} (hR : pOk B c l s) (hi : i < s 10) (M : tvM) (b : Nat) : (pOv s i → f_X0_isOverdue (puC M b c l) b (nI i) (nI (s 0)) = 1) ∧ (¬ pOv s i → f_X0_isOverdue (puC M b c l) b (nI i) (nI (s 0)) = 0) := by
  obtain ⟨⟨hb, hs, hh, hx, he, hsum⟩, ⟨hc, hch, hcx, hcl⟩⟩ := id hR
  have hs' := hs
  obtain ⟨s0, s1, s2, s3, s45, s67, s8, s9, s10, s11, sB⟩ := hs
  have hc' := hc
  obtain ⟨c04, c05, c06, c07, cl, c10, c11, c20, c60⟩ := hc
  have h6 := hR.six hi
  unfold f_X0_isOverdue pOv
  rw [hR.st hi, pc_since M b l c60 s10 hi]
  by_cases q1 : s (36 + 13 * i + 3) = 1
  · have q2 : ¬ pSt (s (36 + 13 * i + 3)) = 111 := fun e => by have := (pSt_eq _ h6.1).2.2.2.mp e; omega
    rw [if_pos ((pSt_eq _ h6.1).2.1.mpr q1), (hcx i hi).2.2.2.2.2.1 (Or.inl q1), pn_sub (by omega)]
    by_cases q3 : 5 ≤ s 0 - s (36 + 13 * i + 5)
    · rw [if_pos (by rw [pl_5, pn_le (by omega) (by omega)]; exact q3)]
      exact ⟨fun _ => rfl, fun e => absurd (Or.inl ⟨q1, q3⟩) e⟩
    · rw [if_neg (by rw [pl_5, pn_le (by omega) (by omega)]; exact q3), if_neg q2]
      exact ⟨fun e => by omega, fun _ => rfl⟩
  · rw [if_neg (fun e => q1 ((pSt_eq _ h6.1).2.1.mp e))]
    by_cases q2 : s (36 + 13 * i + 3) = 3
    · rw [if_pos ((pSt_eq _ h6.1).2.2.2.mpr q2), (hcx i hi).2.2.2.2.2.1 (Or.inr q2), pn_sub (by omega)]
      by_cases q3 : 10 ≤ s 0 - s (36 + 13 * i + 5)
      · rw [if_neg (by rw [pl_10, pn_lt (by omega) (by omega)]; omega)]
        exact ⟨fun _ => rfl, fun e => absurd (Or.inr ⟨q2, q3⟩) e⟩
      · rw [if_pos (by rw [pl_10, pn_lt (by omega) (by omega)]; omega)]
        exact ⟨fun e => by omega, fun _ => rfl⟩
    · rw [if_neg (fun e => q2 ((pSt_eq _ h6.1).2.2.2.mp e))]
      exact ⟨fun e => by omega, fun _ => rfl⟩
theorem px_over {B : Nat} {c : Nat → Nat → Int32} {l : Int64} {s : Nat → Nat} {i : Nat} (hR : pOk B c l s) (hi : i < s 10) (M : tvM) (t : Int32) : q_X9_isOver (puN M s t) (nI i) ∧ (pOv s i → f_X9_isOver (puN M s t) (nI i) = nI 1) ∧ (¬ pOv s i → f_X9_isOver (puN M s t) (nI i) = nI 0) := by
  obtain ⟨⟨hb, hs, hh, hx, he, hsum⟩, ⟨hc, hch, hcx, hcl⟩⟩ := id hR
  have hs' := hs
  obtain ⟨s0, s1, s2, s3, s45, s67, s8, s9, s10, s11, sB⟩ := hs
  have hc' := hc
  obtain ⟨c04, c05, c06, c07, cl, c10, c11, c20, c60⟩ := hc
  have h6 := hR.six hi
  refine ⟨?_, ?_⟩
  · unfold q_X9_isOver
    simp (disch := first | omega | exact hb _) only [pl_0, pl_1, pl_2, pl_3, pl_4, pl_5, pl_6, pl_7, pl_8, pl_9, pl_10, pl_11, pl_12, pl_13, pl_25, pl_30, pl_36, pl_50, pl_60, pl_98, pl_99, pl_100, pl_102, pl_104, pl_105, pl_108, pl_111, pl_112, pl_116, pl_119, pl_166, pl_199, pl_202, pl_239, pl_240, pl_480, pl_999, pl_1000, puN_g, puN_p, puN_pt, px_thr0, px_thr1, px_qthr0, px_qthr1, nI_add, pn_mul, pn_c, pn_le, pn_lt, pn_eq, px_of, px_sets, px_ofh, px_seth, px_qof, px_qsets, px_qofh, px_qseth, pun_s, pun_n, ↓reduceIte, true_and]
    simp
  · unfold f_X9_isOver pOv
    simp (disch := first | omega | exact hb _) only [pl_0, pl_1, pl_2, pl_3, pl_4, pl_5, pl_6, pl_7, pl_8, pl_9, pl_10, pl_11, pl_12, pl_13, pl_25, pl_30, pl_36, pl_50, pl_60, pl_98, pl_99, pl_100, pl_102, pl_104, pl_105, pl_108, pl_111, pl_112, pl_116, pl_119, pl_166, pl_199, pl_202, pl_239, pl_240, pl_480, pl_999, pl_1000, puN_g, px_of, pn_sub, pn_le, pn_lt, pn_eq]
    constructor
    · intro h
      repeat' split
      all_goals first | rfl | (exfalso; omega)
    · intro h
      repeat' split
      all_goals first | rfl | (exfalso; omega)
def pSs (s : Nat → Nat) : Nat → Nat → Nat
  | 0 => s
  | i + 1 => if (s (36 + 13 * i + 3) = 1 ∧ 5 ≤ s 0 - s (36 + 13 * i + 5)) ∨ (s (36 + 13 * i + 3) = 3 ∧ 10 ≤ s 0 - s (36 + 13 * i + 5)) then pShR (pSs s i) i else pSs s i
theorem pShuts {B : Nat} {c : Nat → Nat → Int32} {l : Int64} {s : Nat → Nat} (hR : pOk B c l s) : ∀ i, i ≤ s 10 → ∃ c' : Nat → Nat → Int32, (∀ M b, tvSt (puC M b c l) b i = puC M b c' l) ∧ pOk B c' l (pSs s i) ∧ (∀ k, k < 36 → k ≠ 11 → pSs s i k = s k) ∧ (∀ k, 36 ≤ k → k < 166 → (∀ j w, j < i → 3 ≤ w → w < 7 → k ≠ 36 + 13 * j + w) → pSs s i k = s k) ∧ (∀ j, j < i → (pOv s j → pSs s i (36 + 13 * j + 3) = 0) ∧ (¬ pOv s j → ∀ w, w < 13 → pSs s i (36 + 13 * j + w) = s (36 + 13 * j + w))) ∧ (∀ M' t j, j < i → q_X9_isOver (puN M' (pSs s j) t) (nI j) ∧ (pOv s j → f_X9_isOver (puN M' (pSs s j) t) (nI j) = nI 1 ∧ q_X9_shuts (puN M' (pSs s j) t) (nI j) ∧ f_X9_shuts (puN M' (pSs s j) t) (nI j) = puN M' (pSs s (j + 1)) t) ∧ (¬ pOv s j → f_X9_isOver (puN M' (pSs s j) t) (nI j) = nI 0 ∧ pSs s (j + 1) = pSs s j)) := by
  obtain ⟨⟨hb, hs, hh, hx, he, hsum⟩, ⟨hc, hch, hcx, hcl⟩⟩ := id hR
  have hs' := hs
  obtain ⟨s0, s1, s2, s3, s45, s67, s8, s9, s10, s11, sB⟩ := hs
  have hc' := hc
  obtain ⟨c04, c05, c06, c07, cl, c10, c11, c20, c60⟩ := hc
  intro i
  induction i with
  | zero => intro _; exact ⟨c, fun M b => rfl, hR, fun k _ _ => rfl, fun k _ _ _ => rfl, fun j hj => by omega, fun M' t j hj => by omega⟩
  | succ i ih =>
    intro hi
    obtain ⟨c1, g1, r1, f1, f3, f4, f5⟩ := ih (by omega)
    have hop : ∀ M b, tvSt (puC M b c l) b (i + 1) = if f_X0_isOverdue (puC M b c1 l) b (nI i) (tgi (puC M b c1 l) b 4) = 0 then puC M b c1 l else (f_X6_shut (puC M b c1 l) b (nI i)).2 := fun M b => by
      show (if f_X0_isOverdue (tvSt (puC M b c l) b i) b (nI i) (tgi (tvSt (puC M b c l) b i) b 4) = 0 then tvSt (puC M b c l) b i else (f_X6_shut (tvSt (puC M b c l) b i) b (nI i)).2) = _
      rw [g1]
    have o0 : pSs s i 0 = s 0 := f1 0 (by omega) (by omega)
    have o3 : pSs s i (36 + 13 * i + 3) = s (36 + 13 * i + 3) := f3 _ (by omega) (by omega) (fun j w h1 h2 h3 => by omega)
    have o5 : pSs s i (36 + 13 * i + 5) = s (36 + 13 * i + 5) := f3 _ (by omega) (by omega) (fun j w h1 h2 h3 => by omega)
    have hi1 : i < pSs s i 10 := by rw [f1 10 (by omega) (by omega)]; omega
    have hov : pOv (pSs s i) i ↔ pOv s i := by
      unfold pOv
      rw [o0, o3, o5]
    have ho1 := fun M b => pc_over r1 hi1 M b
    have ho2 := fun M t => px_over r1 hi1 M t
    have ht : ∀ M b, tgi (puC M b c1 l) b 4 = nI (pSs s i 0) := fun M b => by rw [puC_g0]; exact r1.2.1.1
    by_cases q : pOv s i
    · have e1 : pSs s (i + 1) = pShR (pSs s i) i := by
        show (if (s (36 + 13 * i + 3) = 1 ∧ 5 ≤ s 0 - s (36 + 13 * i + 5)) ∨ (s (36 + 13 * i + 3) = 3 ∧ 10 ≤ s 0 - s (36 + 13 * i + 5)) then pShR (pSs s i) i else pSs s i) = _
        exact if_pos q
      obtain ⟨c2, s2, w1, w2, w3, w4, w5, w6, w9⟩ := pShut r1 hi1
      rw [← e1] at w9
      subst w9
      refine ⟨c2, fun M b => ?_, w3, fun k h1 h2 => ?_, fun k h1 h2 h3 => ?_, fun j hj => ⟨fun hd => ?_, fun hd w hw => ?_⟩, fun M' t j hj => ?_⟩
      · rw [hop, ht, (ho1 M b).1 (hov.mpr q), if_neg (by decide), w1]
      · rw [w4 k h1 h2]; exact f1 k h1 h2
      · rw [w5 k h1 h2 (fun w a b => h3 i w (by omega) a b)]
        exact f3 k h1 h2 (fun j w a b c => h3 j w (by omega) b c)
      · by_cases e : j = i
        · subst e
          exact w6
        · rw [w5 _ (by omega) (by omega) (fun w a b => by omega)]
          exact (f4 j (by omega)).1 hd
      · have e : j ≠ i := fun e => hd (e ▸ q)
        rw [w5 _ (by omega) (by omega) (fun w a b => by omega)]
        exact (f4 j (by omega)).2 hd w hw
      · by_cases e : j = i
        · subst e
          exact ⟨(ho2 M' t).1, fun _ => ⟨(ho2 M' t).2.1 (hov.mpr q), w2 M' t⟩, fun h => absurd q h⟩
        · exact f5 M' t j (by omega)
    · have e1 : pSs s (i + 1) = pSs s i := by
        show (if (s (36 + 13 * i + 3) = 1 ∧ 5 ≤ s 0 - s (36 + 13 * i + 5)) ∨ (s (36 + 13 * i + 3) = 3 ∧ 10 ≤ s 0 - s (36 + 13 * i + 5)) then pShR (pSs s i) i else pSs s i) = _
        exact if_neg q
      refine ⟨c1, fun M b => ?_, e1 ▸ r1, fun k h1 h2 => ?_, fun k h1 h2 h3 => ?_, fun j hj => ⟨fun hd => ?_, fun hd w hw => ?_⟩, fun M' t j hj => ?_⟩
      · rw [hop, ht, (ho1 M b).2 (fun e => q (hov.mp e)), if_pos rfl]
      · rw [e1]; exact f1 k h1 h2
      · rw [e1]; exact f3 k h1 h2 (fun j w a b c => h3 j w (by omega) b c)
      · rw [e1]
        by_cases e : j = i
        · subst e; exact absurd hd q
        · exact (f4 j (by omega)).1 hd
      · rw [e1]
        by_cases e : j = i
        · subst e; exact f3 _ (by omega) (by omega) (fun j w a b c => by omega)
        · exact (f4 j (by omega)).2 hd w hw
      · by_cases e : j = i
        · subst e
          exact ⟨(ho2 M' t).1, fun h => absurd h q, fun _ => ⟨(ho2 M' t).2.2 (fun e => q (hov.mp e)), e1⟩⟩
        · exact f5 M' t j (by omega)
/-! ===== a minute ===== -/
def pMA (s : Nat → Nat) : Nat → Nat := if s 0 % s 1 < s 2 then pDn s (s 10) else s
def pMB (s : Nat → Nat) : Nat → Nat := pun (pMA s) 0 (s 0 + 1)
def pMC (s : Nat → Nat) : Nat → Nat := if (s 0 + 1) % 5 = 0 ∧ 0 < s 3 then pun (pMB s) 3 (s 3 - 1) else pMB s
def pMD (s : Nat → Nat) : Nat → Nat := if (s 0 + 1) % s 1 < s 2 then pOs (pMC s) (s 10) else pMC s
def pMO (s : Nat → Nat) : Nat := if (s 0 + 1) % s 1 < s 2 then pOc (pMC s) (s 10) else 0
def pMin (s : Nat → Nat) : Nat → Nat := pSs (pMD s) (s 10)
theorem pOk_time {B : Nat} {c : Nat → Nat → Int32} {l : Int64} {s : Nat → Nat} (hR : pOk B c l s) (hB : B + 1 ≤ 10000000) : pOk (B + 1) (tvU c 0 4 (nI (s 0 + 1))) l (pun s 0 (s 0 + 1)) := by
  obtain ⟨⟨hb, hs, hh, hx, he, hsum⟩, ⟨hc, hch, hcx, hcl⟩⟩ := id hR
  have hs' := hs
  obtain ⟨s0, s1, s2, s3, s45, s67, s8, s9, s10, s11, sB⟩ := hs
  have hc' := hc
  obtain ⟨c04, c05, c06, c07, cl, c10, c11, c20, c60⟩ := hc
  refine pOk_sc hR (pun_b hb _ _ (by omega)) ?_ (by simp (disch := omega) only [pun_s]; omega) (fun k hk => by simp (disch := omega) only [pun_n]) (fun p k hp => by simp (disch := omega) only [pcu_r]) ?_
  · have := hs'.up (B' := B + 1) (by omega) hB
    unfold pRs at this ⊢
    simp (disch := omega) only [pun_s, pun_n]
    omega
  · unfold pCs
    simp (disch := omega) only [pun_n, pun_s, pcu_r, pcu_k, pcu_s, true_and]
    exact ⟨c05, c06, c07, cl, c10, c11, c20, c60⟩
theorem pMA_o (s : Nat → Nat) {k : Nat} (h : k < 36 ∨ 166 ≤ k ∨ ∀ j, k ≠ 36 + 13 * j + 6) (h10 : s 10 ≤ 10) : pMA s k = s k := by
  unfold pMA
  split
  · exact pDn_o s (s 10) (fun j hj => by
      rcases h with h | h | h
      · omega
      · omega
      · exact h j)
  · rfl
theorem pMC_o (s : Nat → Nat) {k : Nat} (h : 1 ≤ k) (h3 : k ≠ 3) : pMC s k = pMA s k := by
  unfold pMC pMB
  split
  · rw [pun_n _ _ h3, pun_n _ _ (by omega)]
  · rw [pun_n _ _ (by omega)]
theorem pMC_0 (s : Nat → Nat) : pMC s 0 = s 0 + 1 := by
  unfold pMC pMB
  split
  · rw [pun_n _ _ (by omega), pun_s]
  · rw [pun_s]
theorem pun_self (s : Nat → Nat) (k : Nat) : pun s k (s k) = s := by
  funext j
  unfold pun
  split
  · rename_i h; rw [h]
  · rfl
/-- the class, up to the opening -/
theorem pMinC {B : Nat} {c : Nat → Nat → Int32} {l : Int64} {s : Nat → Nat} (hR : pOk B c l s) (hB : B + 1 ≤ 10000000) : ∃ c' : Nat → Nat → Int32, (∀ M b, tvMi (puC M b c l) b = puC M b c' l) ∧ pOk (B + 1) c' l (pMC s) := by
  obtain ⟨⟨hb, hs, hh, hx, he, hsum⟩, ⟨hc, hch, hcx, hcl⟩⟩ := id hR
  have hs' := hs
  obtain ⟨s0, s1, s2, s3, s45, s67, s8, s9, s10, s11, sB⟩ := hs
  have hc' := hc
  obtain ⟨c04, c05, c06, c07, cl, c10, c11, c20, c60⟩ := hc
  have hA : ∃ cA : Nat → Nat → Int32, (∀ M b, tvMiA (puC M b c l) b = puC M b cA l) ∧ pOk B cA l (pMA s) := by
    unfold pMA
    by_cases q : s 0 % s 1 < s 2
    · obtain ⟨cA, g, r⟩ := pDown hR (s 10) (Nat.le_refl _)
      refine ⟨cA, fun M b => ?_, by rw [if_pos q]; exact r⟩
      unfold tvMiA f_X0_countDown
      rw [hR.low, if_pos q, if_neg (by decide), puC_g6, c60, pn_c (by omega), g]
    · refine ⟨c, fun M b => ?_, by rw [if_neg q]; exact hR⟩
      unfold tvMiA
      rw [hR.low, if_neg q, if_pos rfl]
  obtain ⟨cA, gA, rA⟩ := hA
  have a0 : pMA s 0 = s 0 := pMA_o s (by omega) s10
  have a3 : pMA s 3 = s 3 := pMA_o s (by omega) s10
  have rB := pOk_time rA hB
  rw [a0] at rB
  have cA4 : cA 0 4 = nI (s 0) := by rw [rA.2.1.1, a0]
  have cA5 : cA 0 5 = nI (s 3) := by rw [rA.2.1.2.1, a3]
  have hT : ∀ M b, tvMi (puC M b c l) b = tvMiT (puC M b (tvU cA 0 4 (nI (s 0 + 1))) l) b := fun M b => by
    unfold tvMi
    rw [gA, puC_g0, cA4, nI_1, puC_p0]
  have hrem : nI (s 0 + 1) - nI (s 0 + 1) / 5 * 5 = nI ((s 0 + 1) % 5) := by rw [pl_5, pn_rem (by omega) (by omega) (by omega)]
  unfold pMC pMB
  by_cases q5 : (s 0 + 1) % 5 = 0
  · by_cases q3 : 0 < s 3
    · refine ⟨tvU (tvU cA 0 4 (nI (s 0 + 1))) 0 5 (nI (s 3 - 1)), fun M b => ?_, ?_⟩
      · rw [hT]
        unfold tvMiT
        simp (disch := omega) only [puC_g0, pcu_s, pcu_k, cA5, hrem, puC_p0, q5]
        rw [if_pos (by decide), if_neg (by rw [pl_0, pn_le (by omega) (by omega)]; omega), pl_1, pn_sub (by omega)]
      · rw [if_pos ⟨q5, q3⟩]
        exact pOk_alarm rB (by omega)
    · refine ⟨tvU cA 0 4 (nI (s 0 + 1)), fun M b => ?_, ?_⟩
      · rw [hT]
        unfold tvMiT
        simp (disch := omega) only [puC_g0, pcu_s, pcu_k, cA5, hrem, q5]
        rw [if_pos (by decide), if_pos (by rw [pl_0, pn_le (by omega) (by omega)]; omega)]
      · rw [if_neg (fun e => q3 e.2)]
        exact rB
  · refine ⟨tvU cA 0 4 (nI (s 0 + 1)), fun M b => ?_, ?_⟩
    · rw [hT]
      unfold tvMiT
      simp (disch := omega) only [puC_g0, pcu_s, hrem]
      rw [if_neg (by rw [pl_0, pn_eq (by omega) (by omega)]; exact q5)]
    · rw [if_neg (fun e => q5 e.1)]
      exact rB

