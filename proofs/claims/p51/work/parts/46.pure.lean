/-! ===== a minute, both sides ===== -/
theorem pMinute {B : Nat} {c : Nat → Nat → Int32} {l : Int64} {s : Nat → Nat} (hR : pOk B c l s) (hB : B + 1 ≤ 10000000) : ∃ c' : Nat → Nat → Int32, (∀ M b, f_X6_minute (puC M b c l) b = (nI (pMO s), puC M b c' l)) ∧ (∀ M' t, q_X9_minutePasses (puN M' s t) ∧ f_X9_minutePasses (puN M' s t) = puN M' (pMin s) t) ∧ pOk (B + 1) c' l (pMin s) ∧ (∀ k, k < 36 → k ≠ 0 → k ≠ 3 → k ≠ 8 → k ≠ 11 → pMin s k = s k) ∧ pMin s 0 = s 0 + 1 ∧ pMin s 8 = s 8 + pMO s ∧ pMO s ≤ s 10 ∧ (∀ k, 36 ≤ k → k < 166 → (∀ j w, j < s 10 → 3 ≤ w → w < 7 → k ≠ 36 + 13 * j + w) → pMin s k = s k) := by
  obtain ⟨⟨hb, hs, hh, hx, he, hsum⟩, ⟨hc, hch, hcx, hcl⟩⟩ := id hR
  have hs' := hs
  obtain ⟨s0, s1, s2, s3, s45, s67, s8, s9, s10, s11, sB⟩ := hs
  have hc' := hc
  obtain ⟨c04, c05, c06, c07, cl, c10, c11, c20, c60⟩ := hc
  obtain ⟨cC, gC, rC⟩ := pMinC hR hB
  have m0 : pMC s 0 = s 0 + 1 := pMC_0 s
  have mo : ∀ k, 1 ≤ k → k ≠ 3 → (k < 36 ∨ 166 ≤ k ∨ ∀ j, k ≠ 36 + 13 * j + 6) → pMC s k = s k := fun k h1 h2 h3 => by rw [pMC_o s h1 h2, pMA_o s h3 s10]
  have m1 : pMC s 1 = s 1 := mo 1 (by omega) (by omega) (by omega)
  have m2 : pMC s 2 = s 2 := mo 2 (by omega) (by omega) (by omega)
  have m8 : pMC s 8 = s 8 := mo 8 (by omega) (by omega) (by omega)
  have m10 : pMC s 10 = s 10 := mo 10 (by omega) (by omega) (by omega)
  have hlowC : ∀ M b, f_X6_isLow (puC M b cC l) b = if (s 0 + 1) % s 1 < s 2 then 1 else 0 := fun M b => by rw [rC.low, m0, m1, m2]
  have cC6 : cC 6 0 = nI (s 10) := by rw [rC.2.1.2.2.2.2.2.2.2.2, m10]
  -- the boxes that open
  have hD : ∃ cD : Nat → Nat → Int32, (∀ M b, tvMo (puC M b cC l) b = (nI (pMO s), puC M b cD l)) ∧ pOk (B + 1) cD l (pMD s) ∧ (∀ k, k < 36 → k ≠ 11 → k ≠ 8 → pMD s k = pMC s k) ∧ pMD s 8 = s 8 + pMO s ∧ pMO s ≤ s 10 ∧ (∀ k, 36 ≤ k → k < 166 → (∀ j w, j < s 10 → 3 ≤ w → w < 7 → k ≠ 36 + 13 * j + w) → pMD s k = pMC s k) := by
    by_cases q : (s 0 + 1) % s 1 < s 2
    · obtain ⟨cD, g, r, f1, f2, f3, f4, f5⟩ := pOpens rC (by omega) (s 10) (by omega)
      have e1 : pMD s = pOs (pMC s) (s 10) := by unfold pMD; rw [if_pos q]
      have e2 : pMO s = pOc (pMC s) (s 10) := by unfold pMO; rw [if_pos q]
      rw [e1, e2]
      refine ⟨cD, fun M b => ?_, r, f1, by rw [f2, m8], pOc_le _ _, f3⟩
      unfold tvMo
      rw [hlowC, if_pos q, if_neg (by decide), puC_g6, cC6, pn_c (by omega), g]
    · have e1 : pMD s = pMC s := by unfold pMD; rw [if_neg q]
      have e2 : pMO s = 0 := by unfold pMO; rw [if_neg q]
      rw [e1, e2]
      refine ⟨cC, fun M b => ?_, rC, fun k _ _ _ => rfl, by rw [m8]; rfl, by omega, fun k _ _ _ => rfl⟩
      unfold tvMo
      rw [hlowC, if_neg q, if_pos rfl]; rfl
  obtain ⟨cD, gD, rD, dk, d8, dO, dx⟩ := hD
  have d10 : pMD s 10 = s 10 := by rw [dk 10 (by omega) (by omega) (by omega), m10]
  obtain ⟨cE, gE, rE, ek, ex, e4, e5⟩ := pShuts rD (s 10) (by omega)
  have cD6 : cD 6 0 = nI (s 10) := by rw [rD.2.1.2.2.2.2.2.2.2.2, d10]
  refine ⟨cE, fun M b => ?_, fun M' t => ?_, rE, fun k h1 h2 h3 h4 h5 => ?_, ?_, ?_, dO, fun k h1 h2 h3 => ?_⟩
  · unfold f_X6_minute tvMs
    rw [gC, gD]
    simp only []
    rw [puC_g6, cD6, pn_c (by omega), gE]
  · -- the model's three loops
    have l3 : pEnd s_X9_minutePasses qs_X9_minutePasses (1 + s 10) (.inl (2, nI 0, 0, puN M' (pMD s) t)) (puN M' (pMin s) t) := by
      refine pEnd_n (fun i => (2, nI i, 0, puN M' (pSs (pMD s) i) t)) (s 10) (fun i hi => ?_) (fun i hi => ?_) (pEnd_1 (y := .inr _) ?_ ?_ (pEnd_r 0 _))
      · have h10 : pSs (pMD s) i 10 = s 10 := by
          obtain ⟨_, _, _, k1, _⟩ := pShuts rD i (by omega)
          rw [k1 10 (by omega) (by omega), d10]
        obtain ⟨w1, w2, w3⟩ := e5 M' t i hi
        unfold s_X9_minutePasses sb_X9_minutePasses
        simp only []
        rw [if_neg (by decide), if_neg (by decide), puN_g, h10, if_neg (by rw [pn_le (by omega) (by omega)]; omega)]
        by_cases q : pOv (pMD s) i
        · rw [(w2 q).1, if_neg (by decide), (w2 q).2.2, nI_1]
        · rw [(w3 q).1, if_pos (by decide), (w3 q).2, nI_1]
      · obtain ⟨w1, w2, w3⟩ := e5 M' t i hi
        unfold qs_X9_minutePasses qb_X9_minutePasses
        refine ⟨fun e => absurd (show (2 : Nat) = 0 from e) (by decide), fun e => absurd (show (2 : Nat) = 1 from e) (by decide), fun _ => ⟨fun _ => trivial, fun _ => ⟨w1, fun _ => trivial, fun hne => ?_⟩⟩⟩
        by_cases q : pOv (pMD s) i
        · exact ⟨(w2 q).2.1, trivial⟩
        · exact absurd (w3 q).1 hne
      · have h10 : pSs (pMD s) (s 10) 10 = s 10 := by rw [ek 10 (by omega) (by omega), d10]
        unfold s_X9_minutePasses sb_X9_minutePasses
        simp only []
        rw [if_neg (by decide), if_neg (by decide), puN_g, h10, if_pos (by rw [pn_le (by omega) (by omega)]; omega)]
        rfl
      · have h10 : pSs (pMD s) (s 10) 10 = s 10 := by rw [ek 10 (by omega) (by omega), d10]
        unfold qs_X9_minutePasses qb_X9_minutePasses
        refine ⟨fun e => absurd (show (2 : Nat) = 0 from e) (by decide), fun e => absurd (show (2 : Nat) = 1 from e) (by decide), fun _ => ⟨fun _ => trivial, fun hn => ?_⟩⟩
        simp only [] at hn
        rw [puN_g, h10, pn_le (by omega) (by omega)] at hn
        omega
    have l2 : pEnd s_X9_minutePasses qs_X9_minutePasses (1 + s 10 + 1 + s 10) (.inl (1, nI 0, 0, puN M' (pMC s) t)) (puN M' (pMin s) t) := by
      by_cases q : (s 0 + 1) % s 1 < s 2
      · have f := pOpens rC (by omega)
        have e1 : pMD s = pOs (pMC s) (s 10) := by unfold pMD; rw [if_pos q]
        have low : ∀ i, i ≤ s 10 → ∀ t, f_X9_low (puN M' (pOs (pMC s) i) t) (nI (s 0 + 1)) = nI 1 ∧ q_X9_low (puN M' (pOs (pMC s) i) t) (nI (s 0 + 1)) ∧ pOs (pMC s) i 0 = s 0 + 1 ∧ pOs (pMC s) i 10 = s 10 := fun i hi t => by
          obtain ⟨_, _, _, k1, _⟩ := f i (by omega)
          have k11 : pOs (pMC s) i 1 = s 1 := by rw [k1 1 (by omega) (by omega) (by omega), m1]
          have k12 : pOs (pMC s) i 2 = s 2 := by rw [k1 2 (by omega) (by omega) (by omega), m2]
          refine ⟨?_, px_qlow _ _ _ (by omega) (by omega), by rw [k1 0 (by omega) (by omega) (by omega), m0], by rw [k1 10 (by omega) (by omega) (by omega), m10]⟩
          rw [px_low _ _ _ (by omega) (by omega) (by omega) (by omega), k11, k12, if_pos q]
        refine pEnd_n (fun i => (1, nI i, 0, puN M' (pOs (pMC s) i) t)) (s 10) (fun i hi => ?_) (fun i hi => ?_) (pEnd_1 (y := .inl (2, nI 0, 0, puN M' (pMD s) t)) ?_ ?_ l3)
        · obtain ⟨w1, w2, w3, w4⟩ := low i (by omega) t
          obtain ⟨_, _, r1, k1, k2, k3, k4, k5⟩ := f i (by omega)
          obtain ⟨_, _, _, _, _, _, _, k6⟩ := f (s 10) (by omega)
          have b3 : pOs (pMC s) i (36 + 13 * i + 3) = pMC s (36 + 13 * i + 3) := k3 _ (by omega) (by omega) (fun j w a b c => by omega)
          have b6 : pOs (pMC s) i (36 + 13 * i + 6) = pMC s (36 + 13 * i + 6) := k3 _ (by omega) (by omega) (fun j w a b c => by omega)
          have h6 := r1.six (i := i) (by omega)
          unfold s_X9_minutePasses sb_X9_minutePasses
          simp only []
          rw [if_neg (by decide), if_pos trivial, puN_g, w4, if_neg (by rw [pn_le (by omega) (by omega)]; omega), puN_g, w3, w1, if_neg (by decide)]
          simp (disch := omega) only [pl_0, pl_1, pl_2, pl_3, pl_4, pl_5, pl_6, pl_7, pl_8, pl_9, pl_10, pl_11, pl_12, pl_13, pl_25, pl_30, pl_36, pl_50, pl_60, pl_98, pl_99, pl_100, pl_102, pl_104, pl_105, pl_108, pl_111, pl_112, pl_116, pl_119, pl_166, pl_199, pl_202, pl_239, pl_240, pl_480, pl_999, pl_1000, px_of, b3, b6, nI_add]
          have z3 : pMC s (36 + 13 * i + 3) < 2147483648 := rC.1.1 _
          have z6 : pMC s (36 + 13 * i + 6) < 2147483648 := rC.1.1 _
          by_cases d : pDue (pMC s) i
          · rw [if_pos (by rw [d.1]), if_pos (by rw [d.2]), (k6 M' t i hi d).2]
          · have es : pOs (pMC s) (i + 1) = pOs (pMC s) i := by
              show (if pMC s (36 + 13 * i + 3) = 2 ∧ pMC s (36 + 13 * i + 6) = 0 then pOpR (pOs (pMC s) i) i else pOs (pMC s) i) = _
              exact if_neg d
            rw [es]
            by_cases d1 : pMC s (36 + 13 * i + 3) = 2
            · rw [if_pos (by rw [d1]), if_neg (by rw [pn_eq z6 (by omega)]; exact fun e => d ⟨d1, e⟩)]
            · rw [if_neg (by rw [pn_eq z3 (by omega)]; exact d1)]
        · obtain ⟨w1, w2, w3, w4⟩ := low i (by omega) t
          obtain ⟨_, _, r1, k1, k2, k3, k4, k5⟩ := f i (by omega)
          obtain ⟨_, _, _, _, _, _, _, k6⟩ := f (s 10) (by omega)
          have b3 : pOs (pMC s) i (36 + 13 * i + 3) = pMC s (36 + 13 * i + 3) := k3 _ (by omega) (by omega) (fun j w a b c => by omega)
          have b6 : pOs (pMC s) i (36 + 13 * i + 6) = pMC s (36 + 13 * i + 6) := k3 _ (by omega) (by omega) (fun j w a b c => by omega)
          have z3 : pMC s (36 + 13 * i + 3) < 2147483648 := rC.1.1 _
          have z6 : pMC s (36 + 13 * i + 6) < 2147483648 := rC.1.1 _
          unfold qs_X9_minutePasses qb_X9_minutePasses
          refine ⟨fun e => absurd (show (1 : Nat) = 0 from e) (by decide), fun _ => ⟨fun _ => trivial, fun _ => ⟨?_, fun _ => trivial, fun _ => ⟨px_qof _ (w := 3) (by omega) (by omega), fun e3 => ⟨px_qof _ (w := 6) (by omega) (by omega), fun e6 => ⟨?_, trivial⟩, fun _ => trivial⟩, fun _ => trivial⟩⟩⟩, fun e => absurd (show (1 : Nat) = 2 from e) (by decide)⟩
          · show q_X9_low _ (tgi (puN M' (pOs (pMC s) i) t) 250 0)
            rw [puN_g, w3]; exact w2
          · have e3' : nI (pOs (pMC s) i (36 + 13 * i + 3)) = nI 2 := by
              rw [← px_of M' (pOs (pMC s) i) t (i := i) (w := 3) (by omega) (by omega)]; exact e3
            have e6' : nI (pOs (pMC s) i (36 + 13 * i + 6)) = nI 0 := by
              rw [← px_of M' (pOs (pMC s) i) t (i := i) (w := 6) (by omega) (by omega)]; exact e6
            rw [b3, pn_eq z3 (by omega)] at e3'
            rw [b6, pn_eq z6 (by omega)] at e6'
            exact (k6 M' t i hi ⟨e3', e6'⟩).1
        · obtain ⟨w1, w2, w3, w4⟩ := low (s 10) (by omega) t
          unfold s_X9_minutePasses sb_X9_minutePasses
          simp only []
          rw [if_neg (by decide), if_pos trivial, puN_g, w4, if_pos (by rw [pn_le (by omega) (by omega)]; omega), e1]
          rfl
        · obtain ⟨w1, w2, w3, w4⟩ := low (s 10) (by omega) t
          unfold qs_X9_minutePasses qb_X9_minutePasses
          refine ⟨fun e => absurd (show (1 : Nat) = 0 from e) (by decide), fun _ => ⟨fun _ => trivial, fun hn => ?_⟩, fun e => absurd (show (1 : Nat) = 2 from e) (by decide)⟩
          simp only [] at hn
          rw [puN_g, w4, pn_le (by omega) (by omega)] at hn
          omega
      · have e1 : pMD s = pMC s := by unfold pMD; rw [if_neg q]
        have w1 : f_X9_low (puN M' (pMC s) t) (nI (s 0 + 1)) = nI 0 := by rw [px_low _ _ _ (by omega) (by omega) (by omega) (by omega), m1, m2, if_neg q]
        have w2 : q_X9_low (puN M' (pMC s) t) (nI (s 0 + 1)) := px_qlow _ _ _ (by omega) (by omega)
        refine pEnd_n (fun i => (1, nI i, 0, puN M' (pMC s) t)) (s 10) (fun i hi => ?_) (fun i hi => ?_) (pEnd_1 (y := .inl (2, nI 0, 0, puN M' (pMD s) t)) ?_ ?_ l3)
        · unfold s_X9_minutePasses sb_X9_minutePasses
          simp only []
          rw [if_neg (by decide), if_pos trivial, puN_g, m10, if_neg (by rw [pn_le (by omega) (by omega)]; omega), puN_g, m0, w1, if_pos (by decide), nI_1]
        · unfold qs_X9_minutePasses qb_X9_minutePasses
          refine ⟨fun e => absurd (show (1 : Nat) = 0 from e) (by decide), fun _ => ⟨fun _ => trivial, fun _ => ⟨?_, fun _ => trivial, fun hne => ?_⟩⟩, fun e => absurd (show (1 : Nat) = 2 from e) (by decide)⟩
          · show q_X9_low _ (tgi (puN M' (pMC s) t) 250 0)
            rw [puN_g, m0]; exact w2
          · exfalso
            simp only [] at hne
            rw [puN_g, m0] at hne
            exact hne w1
        · unfold s_X9_minutePasses sb_X9_minutePasses
          simp only []
          rw [if_neg (by decide), if_pos trivial, puN_g, m10, if_pos (by rw [pn_le (by omega) (by omega)]; omega), e1]
          rfl
        · unfold qs_X9_minutePasses qb_X9_minutePasses
          refine ⟨fun e => absurd (show (1 : Nat) = 0 from e) (by decide), fun _ => ⟨fun _ => trivial, fun hn => ?_⟩, fun e => absurd (show (1 : Nat) = 2 from e) (by decide)⟩
          simp only [] at hn
          rw [puN_g, m10, pn_le (by omega) (by omega)] at hn
          omega
    have l1 : pEnd s_X9_minutePasses qs_X9_minutePasses (1 + s 10 + 1 + s 10 + 1 + s 10) (.inl (0, nI 0, 0, puN M' s t)) (puN M' (pMin s) t) := by
      have a0 : pMA s 0 = s 0 := pMA_o s (by omega) s10
      have a3 : pMA s 3 = s 3 := pMA_o s (by omega) s10
      have a10 : pMA s 10 = s 10 := pMA_o s (by omega) s10
      have hrem : nI (s 0 + 1) - nI (s 0 + 1) / 5 * 5 = nI ((s 0 + 1) % 5) := by rw [pl_5, pn_rem (by omega) (by omega) (by omega)]
      have last : s_X9_minutePasses (0, nI (s 10), 0, puN M' (pMA s) t) = .inl (1, nI 0, 0, puN M' (pMC s) t) := by
        unfold s_X9_minutePasses sb_X9_minutePasses
        simp only []
        rw [if_pos trivial, puN_g, a10, if_pos (by rw [pn_le (by omega) (by omega)]; omega)]
        simp (disch := omega) only [puN_g, a0, nI_1, puN_p, pun_s, pun_n, a3, hrem]
        unfold pMC pMB
        by_cases q5 : (s 0 + 1) % 5 = 0
        · rw [if_pos (by rw [q5]; rfl)]
          by_cases q3 : 0 < s 3
          · rw [if_neg (by rw [pl_0, pn_le (by omega) (by omega)]; omega), pl_1, pn_sub (by omega), puN_p, if_pos ⟨q5, q3⟩]
            rfl
          · rw [if_pos (by rw [pl_0, pn_le (by omega) (by omega)]; omega), if_neg (fun e => q3 e.2)]
            rfl
        · rw [if_neg (by rw [pl_0, pn_eq (by omega) (by omega)]; exact q5), if_neg (fun e => q5 e.1)]
          rfl
      have lastq : qs_X9_minutePasses (0, nI (s 10), 0, puN M' (pMA s) t) := by
        unfold qs_X9_minutePasses qb_X9_minutePasses
        refine ⟨fun _ => ⟨fun _ => ⟨fun _ => ⟨fun _ => trivial, fun _ => trivial⟩, fun _ => trivial⟩, fun hn => ?_⟩, fun e => absurd (show (0 : Nat) = 1 from e) (by decide), fun e => absurd (show (0 : Nat) = 2 from e) (by decide)⟩
        simp only [] at hn
        rw [puN_g, a10, pn_le (by omega) (by omega)] at hn
        omega
      by_cases q : s 0 % s 1 < s 2
      · have eA : pMA s = pDn s (s 10) := by unfold pMA; rw [if_pos q]
        rw [eA] at last lastq
        have low : ∀ i t, f_X9_low (puN M' (pDn s i) t) (nI (s 0)) = nI 1 ∧ q_X9_low (puN M' (pDn s i) t) (nI (s 0)) ∧ pDn s i 0 = s 0 ∧ pDn s i 10 = s 10 := fun i t => by
          have k11 : pDn s i 1 = s 1 := pDn_o s i (fun j hj => by omega)
          have k12 : pDn s i 2 = s 2 := pDn_o s i (fun j hj => by omega)
          refine ⟨?_, px_qlow _ _ _ (by omega) (by omega), pDn_o s i (fun j hj => by omega), pDn_o s i (fun j hj => by omega)⟩
          rw [px_low _ _ _ (by omega) (by omega) (by omega) (by omega), k11, k12, if_pos q]
        refine pEnd_n (fun i => (0, nI i, 0, puN M' (pDn s i) t)) (s 10) (fun i hi => ?_) (fun i hi => ?_) (pEnd_1 last lastq l2)
        · obtain ⟨w1, w2, w3, w4⟩ := low i t
          have b3 : pDn s i (36 + 13 * i + 3) = s (36 + 13 * i + 3) := pDn_o s i (fun j hj => by omega)
          have b6 : pDn s i (36 + 13 * i + 6) = s (36 + 13 * i + 6) := pDn_o s i (fun j hj => by omega)
          have hself : pun (pDn s i) (36 + 13 * i + 6) (s (36 + 13 * i + 6)) = pDn s i := by rw [← b6]; exact pun_self _ _
          have es : pDn s (i + 1) = if s (36 + 13 * i + 3) = 2 ∧ 0 < s (36 + 13 * i + 6) then pun (pDn s i) (36 + 13 * i + 6) (s (36 + 13 * i + 6) - 1) else pDn s i := rfl
          rw [es]
          unfold s_X9_minutePasses sb_X9_minutePasses
          simp only []
          rw [if_pos trivial, puN_g, w4, if_neg (by rw [pn_le (by omega) (by omega)]; omega), puN_g, w3, w1, if_neg (by decide)]
          simp (disch := omega) only [pl_0, pl_1, pl_2, pl_3, pl_4, pl_5, pl_6, pl_7, pl_8, pl_9, pl_10, pl_11, pl_12, pl_13, pl_25, pl_30, pl_36, pl_50, pl_60, pl_98, pl_99, pl_100, pl_102, pl_104, pl_105, pl_108, pl_111, pl_112, pl_116, pl_119, pl_166, pl_199, pl_202, pl_239, pl_240, pl_480, pl_999, pl_1000, px_of, b3, b6, nI_add, pn_sub, px_sets, Nat.sub_zero, hself]
          by_cases d1 : s (36 + 13 * i + 3) = 2
          · rw [if_pos (by rw [d1])]
            by_cases d2 : 0 < s (36 + 13 * i + 6)
            · rw [if_neg (by rw [pn_le (hb _) (by omega)]; omega), if_pos ⟨d1, d2⟩, pn_sub (by omega), px_sets _ _ _ _ (by omega) (by omega)]
            · rw [if_pos (by rw [pn_le (hb _) (by omega)]; omega), if_neg (fun e => d2 e.2)]
          · rw [if_neg (by rw [pn_eq (hb _) (by omega)]; exact d1), if_neg (fun e => d1 e.1)]
        · obtain ⟨w1, w2, w3, w4⟩ := low i t
          unfold qs_X9_minutePasses qb_X9_minutePasses
          have o6 := px_qof (puN M' (pDn s i) t) (i := i) (w := 6) (by omega) (by omega)
          have o3 := px_qof (puN M' (pDn s i) t) (i := i) (w := 3) (by omega) (by omega)
          have os := fun v => px_qsets (puN M' (pDn s i) t) (i := i) (w := 6) v (by omega) (by omega)
          refine ⟨fun _ => ⟨fun hn => ?_, fun _ => ⟨?_, fun _ => ⟨o6, os _, trivial⟩, fun _ => ⟨o3, fun _ => ⟨o6, fun _ => ⟨o6, os _, trivial⟩, fun _ => ⟨o6, os _, trivial⟩⟩, fun _ => ⟨o6, os _, trivial⟩⟩⟩⟩, fun e => absurd (show (0 : Nat) = 1 from e) (by decide), fun e => absurd (show (0 : Nat) = 2 from e) (by decide)⟩
          · exfalso
            simp only [] at hn
            rw [puN_g, w4, pn_le (by omega) (by omega)] at hn
            omega
          · show q_X9_low _ (tgi (puN M' (pDn s i) t) 250 0)
            rw [puN_g, w3]; exact w2
      · have eA : pMA s = s := by unfold pMA; rw [if_neg q]
        rw [eA] at last lastq
        have w1 : f_X9_low (puN M' s t) (nI (s 0)) = nI 0 := by rw [px_low _ _ _ (by omega) (by omega) (by omega) (by omega), if_neg q]
        have w2 : q_X9_low (puN M' s t) (nI (s 0)) := px_qlow _ _ _ (by omega) (by omega)
        refine pEnd_n (fun i => (0, nI i, 0, puN M' s t)) (s 10) (fun i hi => ?_) (fun i hi => ?_) (pEnd_1 last lastq l2)
        · unfold s_X9_minutePasses sb_X9_minutePasses
          simp only []
          rw [if_pos trivial, puN_g, if_neg (by rw [pn_le (by omega) (by omega)]; omega), puN_g, w1, if_pos (by decide)]
          simp (disch := omega) only [pl_0, pl_1, pl_2, pl_3, pl_4, pl_5, pl_6, pl_7, pl_8, pl_9, pl_10, pl_11, pl_12, pl_13, pl_25, pl_30, pl_36, pl_50, pl_60, pl_98, pl_99, pl_100, pl_102, pl_104, pl_105, pl_108, pl_111, pl_112, pl_116, pl_119, pl_166, pl_199, pl_202, pl_239, pl_240, pl_480, pl_999, pl_1000, px_of, nI_add, pn_sub, px_sets, Nat.sub_zero, pun_self]
        · have o6 := px_qof (puN M' s t) (i := i) (w := 6) (by omega) (by omega)
          have os := fun v => px_qsets (puN M' s t) (i := i) (w := 6) v (by omega) (by omega)
          unfold qs_X9_minutePasses qb_X9_minutePasses
          refine ⟨fun _ => ⟨fun hn => ?_, fun _ => ⟨?_, fun _ => ⟨o6, os _, trivial⟩, fun hne => ?_⟩⟩, fun e => absurd (show (0 : Nat) = 1 from e) (by decide), fun e => absurd (show (0 : Nat) = 2 from e) (by decide)⟩
          · exfalso
            simp only [] at hn
            rw [puN_g, pn_le (by omega) (by omega)] at hn
            omega
          · show q_X9_low _ (tgi (puN M' s t) 250 0)
            rw [puN_g]; exact w2
          · exfalso
            simp only [] at hne
            rw [puN_g] at hne
            exact hne w1
    have l0 := pEnd_to (F' := 5000) l1 (by omega)
    exact ⟨⟨trivial, ⟨_, l0.1⟩, l0.2⟩, pGet l0.1⟩
  · show pSs (pMD s) (s 10) k = s k
    rw [ek k h1 h5, dk k h1 h5 h4, mo k (by omega) h3 (by omega)]
  · show pSs (pMD s) (s 10) 0 = s 0 + 1
    rw [ek 0 (by omega) (by omega), dk 0 (by omega) (by omega) (by omega), m0]
  · show pSs (pMD s) (s 10) 8 = s 8 + pMO s
    rw [ek 8 (by omega) (by omega), d8]
  · show pSs (pMD s) (s 10) k = s k
    by_cases hj : ∃ j, k = 36 + 13 * j + 6
    · obtain ⟨j, rfl⟩ := hj
      have hj10 : s 10 ≤ j := Nat.not_lt.mp fun e => h3 j 6 e (by omega) (by omega) rfl
      rw [ex _ h1 h2 h3, dx _ h1 h2 h3, pMC_o s (by omega) (by omega)]
      unfold pMA
      split
      · exact pDn_o s (s 10) (fun j' hj' => by omega)
      · rfl
    · rw [ex _ h1 h2 h3, dx _ h1 h2 h3, mo k (by omega) (by omega) (Or.inr (Or.inr fun j e => hj ⟨j, e⟩))]

