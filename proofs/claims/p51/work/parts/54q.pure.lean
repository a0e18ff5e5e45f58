/-! ===== the class's answers ===== -/
section
variable {B : Nat} {c : Nat → Nat → Int32} {l : Int64} {s : Nat → Nat}
theorem q_attempts (hR : pOk B c l s) (M : tvM) {i : Nat} (hi : i < s 9) : f_X8_attempts (puC M 1 c l) (nI i) = (none, nI (s (12 + 3 * i + 1)), (puC M 1 c l)) := by
  obtain ⟨⟨hb, hs, hh, hx, he, hsum⟩, ⟨hc, hch, hcx, hcl⟩⟩ := id hR
  have hs' := hs
  obtain ⟨s0, s1, s2, s3, s45, s67, s8, s9, s10, s11, sB⟩ := hs
  have hc' := hc
  obtain ⟨c04, c05, c06, c07, cl, c10, c11, c20, c60⟩ := hc
  unfold f_X8_attempts f_X8_refusalOfHolderNumber
  rw [pc_hh1 M 1 l c20 s9 hi, if_neg p10, pRef_0, if_pos rfl, pc_att M 1 l c20 s9 hi, (hch i hi).2.1]
theorem q_minutesLocked (hR : pOk B c l s) (M : tvM) {i : Nat} (hi : i < s 9) : f_X8_minutesLocked (puC M 1 c l) (nI i) = (none, nI (s (12 + 3 * i + 2) - s 0), (puC M 1 c l)) := by
  obtain ⟨⟨hb, hs, hh, hx, he, hsum⟩, ⟨hc, hch, hcx, hcl⟩⟩ := id hR
  have hs' := hs
  obtain ⟨s0, s1, s2, s3, s45, s67, s8, s9, s10, s11, sB⟩ := hs
  have hc' := hc
  obtain ⟨c04, c05, c06, c07, cl, c10, c11, c20, c60⟩ := hc
  unfold f_X8_minutesLocked f_X8_refusalOfHolderNumber
  have e4 : tgi (puC M 1 c l) 1 4 = nI (s 0) := by rw [puC_g0]; exact c04
  rw [pc_hh1 M 1 l c20 s9 hi, if_neg p10, pRef_0, if_pos rfl, e4, pc_lockedFor M 1 l c20 s9 hi (hch i hi).2.2 (hb _) (hb _)]
theorem q_boxesOf (hR : pOk B c l s) (M : tvM) {i : Nat} (hi : i < s 9) : f_X8_boxesOf (puC M 1 c l) (nI i) = (none, nI (tvCt (pBo s (nI i)) (s 10)), (puC M 1 c l)) := by
  obtain ⟨⟨hb, hs, hh, hx, he, hsum⟩, ⟨hc, hch, hcx, hcl⟩⟩ := id hR
  have hs' := hs
  obtain ⟨s0, s1, s2, s3, s45, s67, s8, s9, s10, s11, sB⟩ := hs
  have hc' := hc
  obtain ⟨c04, c05, c06, c07, cl, c10, c11, c20, c60⟩ := hc
  unfold f_X8_boxesOf f_X8_refusalOfHolderNumber f_X0_countOf
  rw [pc_hh1 M 1 l c20 s9 hi, if_neg p10, pRef_0, if_pos rfl, puC_g6, c60, pn_c (by omega)]
  congr 3
  refine tvCt_c fun j hj => ?_
  obtain ⟨x7, x8, _⟩ := hcx j hj
  rw [pc_belongs M 1 l c60 s10 hj, x7, x8]
  unfold pBo
  rw [Nat.add_zero]
  by_cases q1 : nI (s (36 + 13 * j)) = nI i
  · rw [if_pos q1]; simp [q1]
  · rw [if_neg q1]
    by_cases q2 : nI (s (36 + 13 * j + 1)) = nI i
    · rw [if_pos q2]; simp [q1, q2]
    · rw [if_neg q2]; simp [q1, q2]
theorem q_otherHolder1 (hR : pOk B c l s) (M : tvM) {i h : Nat} (hi : i < s 10) (q : s (36 + 13 * i + 0) = h) : f_X8_otherHolder (puC M 1 c l) (nI i) (nI h) = (none, nI (s (36 + 13 * i + 1)), (puC M 1 c l)) := by
  obtain ⟨⟨hb, hs, hh, hx, he, hsum⟩, ⟨hc, hch, hcx, hcl⟩⟩ := id hR
  have hs' := hs
  obtain ⟨s0, s1, s2, s3, s45, s67, s8, s9, s10, s11, sB⟩ := hs
  have hc' := hc
  obtain ⟨c04, c05, c06, c07, cl, c10, c11, c20, c60⟩ := hc
  obtain ⟨x7, x8, x9, _⟩ := hcx i hi
  subst q
  unfold f_X8_otherHolder f_X8_refusalOfBoxNumber
  rw [pc_has1 M 1 l c60 s10 hi, if_neg p10, pRef_0, if_pos rfl, pc_belongs M 1 l c60 s10 hi, x7, if_pos rfl, if_neg p10, pc_partner M 1 l c60 s10 hi, x7, if_pos rfl, x8]
theorem q_otherHolder2 (hR : pOk B c l s) (M : tvM) {i h : Nat} (hi : i < s 10) (q0 : s (36 + 13 * i + 0) ≠ h) (q : s (36 + 13 * i + 1) = h) : f_X8_otherHolder (puC M 1 c l) (nI i) (nI h) = (none, nI (s (36 + 13 * i + 0)), (puC M 1 c l)) := by
  obtain ⟨⟨hb, hs, hh, hx, he, hsum⟩, ⟨hc, hch, hcx, hcl⟩⟩ := id hR
  have hs' := hs
  obtain ⟨s0, s1, s2, s3, s45, s67, s8, s9, s10, s11, sB⟩ := hs
  have hc' := hc
  obtain ⟨c04, c05, c06, c07, cl, c10, c11, c20, c60⟩ := hc
  obtain ⟨x7, x8, x9, _⟩ := hcx i hi
  subst q
  have q0' : ¬ nI (s (36 + 13 * i + 0)) = nI (s (36 + 13 * i + 1)) := fun e => q0 ((pn_eq (hb _) (hb _)).1 e)
  unfold f_X8_otherHolder f_X8_refusalOfBoxNumber
  rw [pc_has1 M 1 l c60 s10 hi, if_neg p10, pRef_0, if_pos rfl, pc_belongs M 1 l c60 s10 hi, x7, if_neg q0', x8, if_pos rfl, if_neg p10, pc_partner M 1 l c60 s10 hi, x7, if_neg q0']
theorem q_otherHolder3 (hR : pOk B c l s) (M : tvM) {i h : Nat} (hi : i < s 10) (hlt : h < 2147483648) (q0 : s (36 + 13 * i + 0) ≠ h) (q : s (36 + 13 * i + 1) ≠ h) : f_X8_otherHolder (puC M 1 c l) (nI i) (nI h) = (some "java/lang/IllegalArgumentException", 0, (puC M 1 c l)) := by
  obtain ⟨⟨hb, hs, hh, hx, he, hsum⟩, ⟨hc, hch, hcx, hcl⟩⟩ := id hR
  have hs' := hs
  obtain ⟨s0, s1, s2, s3, s45, s67, s8, s9, s10, s11, sB⟩ := hs
  have hc' := hc
  obtain ⟨c04, c05, c06, c07, cl, c10, c11, c20, c60⟩ := hc
  obtain ⟨x7, x8, x9, _⟩ := hcx i hi
  have q0' : ¬ nI (s (36 + 13 * i + 0)) = nI h := fun e => q0 ((pn_eq (hb _) hlt).1 e)
  have q' : ¬ nI (s (36 + 13 * i + 1)) = nI h := fun e => q ((pn_eq (hb _) hlt).1 e)
  unfold f_X8_otherHolder f_X8_refusalOfBoxNumber
  rw [pc_has1 M 1 l c60 s10 hi, if_neg p10, pRef_0, if_pos rfl, pc_belongs M 1 l c60 s10 hi, x7, if_neg q0', x8, if_neg q', if_pos rfl]
theorem q_status (hR : pOk B c l s) (M : tvM) {i : Nat} (hi : i < s 10) : f_X8_status (puC M 1 c l) (nI i) = (none, pSt (s (36 + 13 * i + 3)), (puC M 1 c l)) := by
  obtain ⟨⟨hb, hs, hh, hx, he, hsum⟩, ⟨hc, hch, hcx, hcl⟩⟩ := id hR
  have hs' := hs
  obtain ⟨s0, s1, s2, s3, s45, s67, s8, s9, s10, s11, sB⟩ := hs
  have hc' := hc
  obtain ⟨c04, c05, c06, c07, cl, c10, c11, c20, c60⟩ := hc
  unfold f_X8_status f_X8_refusalOfBoxNumber
  rw [pc_has1 M 1 l c60 s10 hi, if_neg p10, pRef_0, if_pos rfl, pc_status M 1 l c60 s10 hi, (hcx i hi).2.2.2.1, pSt_tnc]
theorem q_firstHolder (hR : pOk B c l s) (M : tvM) {i : Nat} (hi : i < s 10) (q : s (36 + 13 * i + 3) = 1) : f_X8_firstHolder (puC M 1 c l) (nI i) = (none, nI (s (36 + 13 * i + 4)), (puC M 1 c l)) := by
  obtain ⟨⟨hb, hs, hh, hx, he, hsum⟩, ⟨hc, hch, hcx, hcl⟩⟩ := id hR
  have hs' := hs
  obtain ⟨s0, s1, s2, s3, s45, s67, s8, s9, s10, s11, sB⟩ := hs
  have hc' := hc
  obtain ⟨c04, c05, c06, c07, cl, c10, c11, c20, c60⟩ := hc
  have h3 : s (36 + 13 * i + 3) ≤ 3 := (hx i (by omega)).2.1
  obtain ⟨x7, x8, x9, xst, xf, xs, xr, _⟩ := hcx i hi
  unfold f_X8_firstHolder f_X8_refusalUnless
  rw [pc_has1 M 1 l c60 s10 hi, if_neg p10, pc_status M 1 l c60 s10 hi, xst, pSt_tnc, if_pos ((pSt_eq _ h3).2.1.2 q), pRef_0, if_pos rfl, pc_first M 1 l c60 s10 hi, xf q]
theorem q_firstHolder0 (hR : pOk B c l s) (M : tvM) {i : Nat} (hi : i < s 10) (q : s (36 + 13 * i + 3) ≠ 1) : f_X8_firstHolder (puC M 1 c l) (nI i) = (some "java/util/NoSuchElementException", 0, (puC M 1 c l)) := by
  obtain ⟨⟨hb, hs, hh, hx, he, hsum⟩, ⟨hc, hch, hcx, hcl⟩⟩ := id hR
  have hs' := hs
  obtain ⟨s0, s1, s2, s3, s45, s67, s8, s9, s10, s11, sB⟩ := hs
  have hc' := hc
  obtain ⟨c04, c05, c06, c07, cl, c10, c11, c20, c60⟩ := hc
  have h3 : s (36 + 13 * i + 3) ≤ 3 := (hx i (by omega)).2.1
  obtain ⟨x7, x8, x9, xst, xf, xs, xr, _⟩ := hcx i hi
  unfold f_X8_firstHolder f_X8_refusalUnless
  rw [pc_has1 M 1 l c60 s10 hi, if_neg p10, pc_status M 1 l c60 s10 hi, xst, pSt_tnc, if_neg (fun e => q ((pSt_eq _ h3).2.1.1 e)), pRef_5]
  simp
theorem q_remainingDelay (hR : pOk B c l s) (M : tvM) {i : Nat} (hi : i < s 10) (q : s (36 + 13 * i + 3) = 2) : f_X8_remainingDelay (puC M 1 c l) (nI i) = (none, nI (s (36 + 13 * i + 6)), (puC M 1 c l)) := by
  obtain ⟨⟨hb, hs, hh, hx, he, hsum⟩, ⟨hc, hch, hcx, hcl⟩⟩ := id hR
  have hs' := hs
  obtain ⟨s0, s1, s2, s3, s45, s67, s8, s9, s10, s11, sB⟩ := hs
  have hc' := hc
  obtain ⟨c04, c05, c06, c07, cl, c10, c11, c20, c60⟩ := hc
  have h3 : s (36 + 13 * i + 3) ≤ 3 := (hx i (by omega)).2.1
  obtain ⟨x7, x8, x9, xst, xf, xs, xr, _⟩ := hcx i hi
  unfold f_X8_remainingDelay f_X8_refusalUnless
  rw [pc_has1 M 1 l c60 s10 hi, if_neg p10, pc_status M 1 l c60 s10 hi, xst, pSt_tnc, if_pos ((pSt_eq _ h3).2.2.1.2 q), pRef_0, if_pos rfl, pc_rem M 1 l c60 s10 hi, xr q]
theorem q_remainingDelay0 (hR : pOk B c l s) (M : tvM) {i : Nat} (hi : i < s 10) (q : s (36 + 13 * i + 3) ≠ 2) : f_X8_remainingDelay (puC M 1 c l) (nI i) = (some "java/util/NoSuchElementException", 0, (puC M 1 c l)) := by
  obtain ⟨⟨hb, hs, hh, hx, he, hsum⟩, ⟨hc, hch, hcx, hcl⟩⟩ := id hR
  have hs' := hs
  obtain ⟨s0, s1, s2, s3, s45, s67, s8, s9, s10, s11, sB⟩ := hs
  have hc' := hc
  obtain ⟨c04, c05, c06, c07, cl, c10, c11, c20, c60⟩ := hc
  have h3 : s (36 + 13 * i + 3) ≤ 3 := (hx i (by omega)).2.1
  obtain ⟨x7, x8, x9, xst, xf, xs, xr, _⟩ := hcx i hi
  unfold f_X8_remainingDelay f_X8_refusalUnless
  rw [pc_has1 M 1 l c60 s10 hi, if_neg p10, pc_status M 1 l c60 s10 hi, xst, pSt_tnc, if_neg (fun e => q ((pSt_eq _ h3).2.2.1.1 e)), pRef_5]
  simp
theorem q_until (hR : pOk B c l s) (M : tvM) {i K : Nat} (hi : i < s 10) (q : s (36 + 13 * i + 3) = 2) (hK : pOpK s i K) : f_X8_minutesUntilOpen (puC M 1 c l) (nI i) = (none, nI K, (puC M 1 c l)) := by
  obtain ⟨⟨hb, hs, hh, hx, he, hsum⟩, ⟨hc, hch, hcx, hcl⟩⟩ := id hR
  have hs' := hs
  obtain ⟨s0, s1, s2, s3, s45, s67, s8, s9, s10, s11, sB⟩ := hs
  have hc' := hc
  obtain ⟨c04, c05, c06, c07, cl, c10, c11, c20, c60⟩ := hc
  rcases pPend hR M (nI i) with ⟨j, hj, ex, h2, e⟩ | ⟨j, hj, ex, h2, e⟩ | ⟨h1, e⟩
  · unfold f_X8_minutesUntilOpen
    rw [e, pRef_0, if_pos rfl, pc_search hR M hi q hK]
  · have : i = j := (pn_eq (by omega) (by omega)).1 ex
    subst this
    exact absurd q h2
  · exact absurd ⟨i, hi, rfl⟩ h1
theorem q_until0 (hR : pOk B c l s) (M : tvM) {i : Nat} (hi : i < s 10) (q : s (36 + 13 * i + 3) ≠ 2) : f_X8_minutesUntilOpen (puC M 1 c l) (nI i) = (some "java/util/NoSuchElementException", 0, (puC M 1 c l)) ∧ f_X8_minutesUntilOpenBySimulation (puC M 1 c l) (nI i) = (some "java/util/NoSuchElementException", 0, (puC M 1 c l)) := by
  obtain ⟨⟨hb, hs, hh, hx, he, hsum⟩, ⟨hc, hch, hcx, hcl⟩⟩ := id hR
  have hs' := hs
  obtain ⟨s0, s1, s2, s3, s45, s67, s8, s9, s10, s11, sB⟩ := hs
  have hc' := hc
  obtain ⟨c04, c05, c06, c07, cl, c10, c11, c20, c60⟩ := hc
  rcases pPend hR M (nI i) with ⟨j, hj, ex, h2, e⟩ | ⟨j, hj, ex, h2, e⟩ | ⟨h1, e⟩
  · have : i = j := (pn_eq (by omega) (by omega)).1 ex
    subst this
    exact absurd h2 q
  · unfold f_X8_minutesUntilOpen f_X8_minutesUntilOpenBySimulation
    rw [e, pRef_5]
    simp
  · exact absurd ⟨i, hi, rfl⟩ h1
theorem q_pearls (hR : pOk B c l s) (M : tvM) {i : Nat} (hi : i < s 10) : f_X8_pearls (puC M 1 c l) (nI i) = (none, nI (s (36 + 13 * i + 7)), (puC M 1 c l)) := by
  obtain ⟨⟨hb, hs, hh, hx, he, hsum⟩, ⟨hc, hch, hcx, hcl⟩⟩ := id hR
  have hs' := hs
  obtain ⟨s0, s1, s2, s3, s45, s67, s8, s9, s10, s11, sB⟩ := hs
  have hc' := hc
  obtain ⟨c04, c05, c06, c07, cl, c10, c11, c20, c60⟩ := hc
  unfold f_X8_pearls f_X8_refusalOfBoxNumber
  rw [pc_has1 M 1 l c60 s10 hi, if_neg p10, pRef_0, if_pos rfl, pc_pearls M 1 l c60 s10 hi, (hcx i hi).2.2.2.2.2.2.2.1]
theorem q_pearl (hR : pOk B c l s) (M : tvM) {i j : Nat} (hi : i < s 10) (hj : j < s (36 + 13 * i + 7)) : f_X8_pearl (puC M 1 c l) (nI i) (nI j) = (none, nI (s (36 + 13 * i + (8 + j))), (puC M 1 c l)) := by
  obtain ⟨⟨hb, hs, hh, hx, he, hsum⟩, ⟨hc, hch, hcx, hcl⟩⟩ := id hR
  have hs' := hs
  obtain ⟨s0, s1, s2, s3, s45, s67, s8, s9, s10, s11, sB⟩ := hs
  have hc' := hc
  obtain ⟨c04, c05, c06, c07, cl, c10, c11, c20, c60⟩ := hc
  have hp5 : s (36 + 13 * i + 7) ≤ 5 := (hx i (by omega)).2.2.2.2.1
  obtain ⟨x7, x8, x9, xst, xf, xs, xr, xp, xv⟩ := hcx i hi
  unfold f_X8_pearl f_X8_refusalOfBoxNumber
  rw [pc_has1 M 1 l c60 s10 hi, if_neg p10, pRef_0, if_pos rfl, if_neg (pn_neg (by omega)), pc_pearls M 1 l c60 s10 hi, xp, if_pos (by rw [pn_lt (by omega) (by omega)]; exact hj), pc_value M 1 l c60 s10 hi (by omega), xv j hj]
theorem q_eventKind (hR : pOk B c l s) (M : tvM) {j : Nat} (hj : j < s 11) : f_X8_eventKind (puC M 1 c l) (nI j) = (none, nI (s (166 + 3 * j + 0)), (puC M 1 c l)) := by
  obtain ⟨⟨hb, hs, hh, hx, he, hsum⟩, ⟨hc, hch, hcx, hcl⟩⟩ := id hR
  have hs' := hs
  obtain ⟨s0, s1, s2, s3, s45, s67, s8, s9, s10, s11, sB⟩ := hs
  have hc' := hc
  obtain ⟨c04, c05, c06, c07, cl, c10, c11, c20, c60⟩ := hc
  rcases pc_event hR M (nI j) with ⟨j', z, hj', hz, ex, a1, a2, a3, a4, a5⟩ | ⟨h2, a1⟩
  · have : j = j' := (pn_eq (by omega) (by omega)).1 ex
    subst this
    unfold f_X8_eventKind f_X8_refusalOfEvent f_X4_kindOf
    rw [a1, if_neg p10, pRef_0, if_pos rfl, a2, pn_c (by omega), puC_g17, a3, pc_tnc _ (he j (by omega)).1]
    rfl
  · exact absurd ⟨j, hj, rfl⟩ h2
theorem q_eventTime (hR : pOk B c l s) (M : tvM) {j : Nat} (hj : j < s 11) : f_X8_eventTime (puC M 1 c l) (nI j) = (none, nI (s (166 + 3 * j + 1)), (puC M 1 c l)) := by
  obtain ⟨⟨hb, hs, hh, hx, he, hsum⟩, ⟨hc, hch, hcx, hcl⟩⟩ := id hR
  have hs' := hs
  obtain ⟨s0, s1, s2, s3, s45, s67, s8, s9, s10, s11, sB⟩ := hs
  have hc' := hc
  obtain ⟨c04, c05, c06, c07, cl, c10, c11, c20, c60⟩ := hc
  rcases pc_event hR M (nI j) with ⟨j', z, hj', hz, ex, a1, a2, a3, a4, a5⟩ | ⟨h2, a1⟩
  · have : j = j' := (pn_eq (by omega) (by omega)).1 ex
    subst this
    unfold f_X8_eventTime f_X8_refusalOfEvent f_X4_timeOf
    rw [a1, if_neg p10, pRef_0, if_pos rfl, a2, pn_c (by omega), puC_g18, a4]
  · exact absurd ⟨j, hj, rfl⟩ h2
theorem q_eventNumber (hR : pOk B c l s) (M : tvM) {j : Nat} (hj : j < s 11) : f_X8_eventNumber (puC M 1 c l) (nI j) = (none, nI (s (166 + 3 * j + 2)), (puC M 1 c l)) := by
  obtain ⟨⟨hb, hs, hh, hx, he, hsum⟩, ⟨hc, hch, hcx, hcl⟩⟩ := id hR
  have hs' := hs
  obtain ⟨s0, s1, s2, s3, s45, s67, s8, s9, s10, s11, sB⟩ := hs
  have hc' := hc
  obtain ⟨c04, c05, c06, c07, cl, c10, c11, c20, c60⟩ := hc
  rcases pc_event hR M (nI j) with ⟨j', z, hj', hz, ex, a1, a2, a3, a4, a5⟩ | ⟨h2, a1⟩
  · have : j = j' := (pn_eq (by omega) (by omega)).1 ex
    subst this
    unfold f_X8_eventNumber f_X8_refusalOfEvent f_X4_numberOf
    rw [a1, if_neg p10, pRef_0, if_pos rfl, a2, pn_c (by omega), puC_g19, a5]
  · exact absurd ⟨j, hj, rfl⟩ h2
theorem q_low (hR : pOk B c l s) (M : tvM) {n : Nat} (hn : n ≤ 1000) : f_X8_lowMinutes (puC M 1 c l) (nI n) = (none, nI (tvCt (pLc (s 1) (s 2) (s 0)) n), (puC M 1 c l)) ∧ f_X8_lowMinutesByCounting (puC M 1 c l) (nI n) = (none, nI (tvCt (pLc (s 1) (s 2) (s 0)) n), (puC M 1 c l)) := by
  obtain ⟨⟨hb, hs, hh, hx, he, hsum⟩, ⟨hc, hch, hcx, hcl⟩⟩ := id hR
  have hs' := hs
  obtain ⟨s0, s1, s2, s3, s45, s67, s8, s9, s10, s11, sB⟩ := hs
  have hc' := hc
  obtain ⟨c04, c05, c06, c07, cl, c10, c11, c20, c60⟩ := hc
  unfold f_X8_lowMinutes f_X8_lowMinutesByCounting
  rw [pc_refLow _ hn, pRef_0, if_pos rfl, if_pos rfl, pc_lowF hR M hn, pc_lowC hR M hn]
  exact ⟨rfl, rfl⟩
theorem q_value (hR : pOk B c l s) (M : tvM)  : f_X8_totalValue (puC M 1 c l) = lN (pSu s) := by
  obtain ⟨⟨hb, hs, hh, hx, he, hsum⟩, ⟨hc, hch, hcx, hcl⟩⟩ := id hR
  have hs' := hs
  obtain ⟨s0, s1, s2, s3, s45, s67, s8, s9, s10, s11, sB⟩ := hs
  have hc' := hc
  obtain ⟨c04, c05, c06, c07, cl, c10, c11, c20, c60⟩ := hc
  unfold f_X8_totalValue
  exact pc_sumAll hR M 1
theorem q_ledger (hR : pOk B c l s) (M : tvM)  : f_X8_totalValueByLedger (puC M 1 c l) = lN (pSu s) := by
  obtain ⟨⟨hb, hs, hh, hx, he, hsum⟩, ⟨hc, hch, hcx, hcl⟩⟩ := id hR
  have hs' := hs
  obtain ⟨s0, s1, s2, s3, s45, s67, s8, s9, s10, s11, sB⟩ := hs
  have hc' := hc
  obtain ⟨c04, c05, c06, c07, cl, c10, c11, c20, c60⟩ := hc
  have e1 : tgl (puC M 1 c l) 1 8 = lN (s 6 - s 7) := by rw [puC_l]; exact cl
  unfold f_X8_totalValueByLedger
  rw [e1, show s 6 - s 7 = pSu s by omega]
theorem q_time (hR : pOk B c l s) (M : tvM)  : f_X8_time (puC M 1 c l) = nI (s 0) := by
  obtain ⟨⟨hb, hs, hh, hx, he, hsum⟩, ⟨hc, hch, hcx, hcl⟩⟩ := id hR
  have hs' := hs
  obtain ⟨s0, s1, s2, s3, s45, s67, s8, s9, s10, s11, sB⟩ := hs
  have hc' := hc
  obtain ⟨c04, c05, c06, c07, cl, c10, c11, c20, c60⟩ := hc
  unfold f_X8_time
  rw [puC_g0]; exact c04
theorem q_alarm (hR : pOk B c l s) (M : tvM)  : f_X8_alarm (puC M 1 c l) = nI (s 3) := by
  obtain ⟨⟨hb, hs, hh, hx, he, hsum⟩, ⟨hc, hch, hcx, hcl⟩⟩ := id hR
  have hs' := hs
  obtain ⟨s0, s1, s2, s3, s45, s67, s8, s9, s10, s11, sB⟩ := hs
  have hc' := hc
  obtain ⟨c04, c05, c06, c07, cl, c10, c11, c20, c60⟩ := hc
  unfold f_X8_alarm
  rw [puC_g0]; exact c05
theorem q_holders (hR : pOk B c l s) (M : tvM)  : f_X8_holders (puC M 1 c l) = nI (s 9) := by
  obtain ⟨⟨hb, hs, hh, hx, he, hsum⟩, ⟨hc, hch, hcx, hcl⟩⟩ := id hR
  have hs' := hs
  obtain ⟨s0, s1, s2, s3, s45, s67, s8, s9, s10, s11, sB⟩ := hs
  have hc' := hc
  obtain ⟨c04, c05, c06, c07, cl, c10, c11, c20, c60⟩ := hc
  unfold f_X8_holders
  rw [puC_g2]; exact c20
theorem q_boxes (hR : pOk B c l s) (M : tvM)  : f_X8_boxes (puC M 1 c l) = nI (s 10) := by
  obtain ⟨⟨hb, hs, hh, hx, he, hsum⟩, ⟨hc, hch, hcx, hcl⟩⟩ := id hR
  have hs' := hs
  obtain ⟨s0, s1, s2, s3, s45, s67, s8, s9, s10, s11, sB⟩ := hs
  have hc' := hc
  obtain ⟨c04, c05, c06, c07, cl, c10, c11, c20, c60⟩ := hc
  unfold f_X8_boxes
  rw [puC_g6]; exact c60
theorem q_events (hR : pOk B c l s) (M : tvM)  : f_X8_events (puC M 1 c l) = nI (s 11) := by
  obtain ⟨⟨hb, hs, hh, hx, he, hsum⟩, ⟨hc, hch, hcx, hcl⟩⟩ := id hR
  have hs' := hs
  obtain ⟨s0, s1, s2, s3, s45, s67, s8, s9, s10, s11, sB⟩ := hs
  have hc' := hc
  obtain ⟨c04, c05, c06, c07, cl, c10, c11, c20, c60⟩ := hc
  obtain ⟨st, q1, q2, q3, q4⟩ := hcl
  unfold f_X8_events
  rw [puC_g16]
  exact q3
theorem q_isLow (hR : pOk B c l s) (M : tvM)  : f_X8_isLowTide (puC M 1 c l) = if s 0 % s 1 < s 2 then 1 else 0 := by
  obtain ⟨⟨hb, hs, hh, hx, he, hsum⟩, ⟨hc, hch, hcx, hcl⟩⟩ := id hR
  have hs' := hs
  obtain ⟨s0, s1, s2, s3, s45, s67, s8, s9, s10, s11, sB⟩ := hs
  have hc' := hc
  obtain ⟨c04, c05, c06, c07, cl, c10, c11, c20, c60⟩ := hc
  unfold f_X8_isLowTide
  exact pc_isLow M 1 l c04 c10 c11 (by omega) (by omega) (by omega) (by omega)
end
section
variable {B : Nat} {M : tvM} {s : Nat → Nat}
theorem q_attempts' (hR : pOk B (pV M 1) (pL M 1) s) {i : Nat} (hi : i < s 9) : f_X8_attempts M (nI i) = (none, nI (s (12 + 3 * i + 1)), M) := by
  have h := q_attempts hR M hi
  rwa [show puC M 1 (pV M 1) (pL M 1) = M from puC_self M 1] at h
theorem q_minutesLocked' (hR : pOk B (pV M 1) (pL M 1) s) {i : Nat} (hi : i < s 9) : f_X8_minutesLocked M (nI i) = (none, nI (s (12 + 3 * i + 2) - s 0), M) := by
  have h := q_minutesLocked hR M hi
  rwa [show puC M 1 (pV M 1) (pL M 1) = M from puC_self M 1] at h
theorem q_boxesOf' (hR : pOk B (pV M 1) (pL M 1) s) {i : Nat} (hi : i < s 9) : f_X8_boxesOf M (nI i) = (none, nI (tvCt (pBo s (nI i)) (s 10)), M) := by
  have h := q_boxesOf hR M hi
  rwa [show puC M 1 (pV M 1) (pL M 1) = M from puC_self M 1] at h
theorem q_otherHolder1' (hR : pOk B (pV M 1) (pL M 1) s) {i h : Nat} (hi : i < s 10) (q : s (36 + 13 * i + 0) = h) : f_X8_otherHolder M (nI i) (nI h) = (none, nI (s (36 + 13 * i + 1)), M) := by
  have h := q_otherHolder1 hR M hi q
  rwa [show puC M 1 (pV M 1) (pL M 1) = M from puC_self M 1] at h
theorem q_otherHolder2' (hR : pOk B (pV M 1) (pL M 1) s) {i h : Nat} (hi : i < s 10) (q0 : s (36 + 13 * i + 0) ≠ h) (q : s (36 + 13 * i + 1) = h) : f_X8_otherHolder M (nI i) (nI h) = (none, nI (s (36 + 13 * i + 0)), M) := by
  have h := q_otherHolder2 hR M hi q0 q
  rwa [show puC M 1 (pV M 1) (pL M 1) = M from puC_self M 1] at h
theorem q_otherHolder3' (hR : pOk B (pV M 1) (pL M 1) s) {i h : Nat} (hi : i < s 10) (hlt : h < 2147483648) (q0 : s (36 + 13 * i + 0) ≠ h) (q : s (36 + 13 * i + 1) ≠ h) : f_X8_otherHolder M (nI i) (nI h) = (some "java/lang/IllegalArgumentException", 0, M) := by
  have h := q_otherHolder3 hR M hi hlt q0 q
  rwa [show puC M 1 (pV M 1) (pL M 1) = M from puC_self M 1] at h
theorem q_status' (hR : pOk B (pV M 1) (pL M 1) s) {i : Nat} (hi : i < s 10) : f_X8_status M (nI i) = (none, pSt (s (36 + 13 * i + 3)), M) := by
  have h := q_status hR M hi
  rwa [show puC M 1 (pV M 1) (pL M 1) = M from puC_self M 1] at h
theorem q_firstHolder' (hR : pOk B (pV M 1) (pL M 1) s) {i : Nat} (hi : i < s 10) (q : s (36 + 13 * i + 3) = 1) : f_X8_firstHolder M (nI i) = (none, nI (s (36 + 13 * i + 4)), M) := by
  have h := q_firstHolder hR M hi q
  rwa [show puC M 1 (pV M 1) (pL M 1) = M from puC_self M 1] at h
theorem q_firstHolder0' (hR : pOk B (pV M 1) (pL M 1) s) {i : Nat} (hi : i < s 10) (q : s (36 + 13 * i + 3) ≠ 1) : f_X8_firstHolder M (nI i) = (some "java/util/NoSuchElementException", 0, M) := by
  have h := q_firstHolder0 hR M hi q
  rwa [show puC M 1 (pV M 1) (pL M 1) = M from puC_self M 1] at h
theorem q_remainingDelay' (hR : pOk B (pV M 1) (pL M 1) s) {i : Nat} (hi : i < s 10) (q : s (36 + 13 * i + 3) = 2) : f_X8_remainingDelay M (nI i) = (none, nI (s (36 + 13 * i + 6)), M) := by
  have h := q_remainingDelay hR M hi q
  rwa [show puC M 1 (pV M 1) (pL M 1) = M from puC_self M 1] at h
theorem q_remainingDelay0' (hR : pOk B (pV M 1) (pL M 1) s) {i : Nat} (hi : i < s 10) (q : s (36 + 13 * i + 3) ≠ 2) : f_X8_remainingDelay M (nI i) = (some "java/util/NoSuchElementException", 0, M) := by
  have h := q_remainingDelay0 hR M hi q
  rwa [show puC M 1 (pV M 1) (pL M 1) = M from puC_self M 1] at h
theorem q_until' (hR : pOk B (pV M 1) (pL M 1) s) {i K : Nat} (hi : i < s 10) (q : s (36 + 13 * i + 3) = 2) (hK : pOpK s i K) : f_X8_minutesUntilOpen M (nI i) = (none, nI K, M) := by
  have h := q_until hR M hi q hK
  rwa [show puC M 1 (pV M 1) (pL M 1) = M from puC_self M 1] at h
theorem q_until0' (hR : pOk B (pV M 1) (pL M 1) s) {i : Nat} (hi : i < s 10) (q : s (36 + 13 * i + 3) ≠ 2) : f_X8_minutesUntilOpen M (nI i) = (some "java/util/NoSuchElementException", 0, M) ∧ f_X8_minutesUntilOpenBySimulation M (nI i) = (some "java/util/NoSuchElementException", 0, M) := by
  have h := q_until0 hR M hi q
  rwa [show puC M 1 (pV M 1) (pL M 1) = M from puC_self M 1] at h
theorem q_pearls' (hR : pOk B (pV M 1) (pL M 1) s) {i : Nat} (hi : i < s 10) : f_X8_pearls M (nI i) = (none, nI (s (36 + 13 * i + 7)), M) := by
  have h := q_pearls hR M hi
  rwa [show puC M 1 (pV M 1) (pL M 1) = M from puC_self M 1] at h
theorem q_pearl' (hR : pOk B (pV M 1) (pL M 1) s) {i j : Nat} (hi : i < s 10) (hj : j < s (36 + 13 * i + 7)) : f_X8_pearl M (nI i) (nI j) = (none, nI (s (36 + 13 * i + (8 + j))), M) := by
  have h := q_pearl hR M hi hj
  rwa [show puC M 1 (pV M 1) (pL M 1) = M from puC_self M 1] at h
theorem q_eventKind' (hR : pOk B (pV M 1) (pL M 1) s) {j : Nat} (hj : j < s 11) : f_X8_eventKind M (nI j) = (none, nI (s (166 + 3 * j + 0)), M) := by
  have h := q_eventKind hR M hj
  rwa [show puC M 1 (pV M 1) (pL M 1) = M from puC_self M 1] at h
theorem q_eventTime' (hR : pOk B (pV M 1) (pL M 1) s) {j : Nat} (hj : j < s 11) : f_X8_eventTime M (nI j) = (none, nI (s (166 + 3 * j + 1)), M) := by
  have h := q_eventTime hR M hj
  rwa [show puC M 1 (pV M 1) (pL M 1) = M from puC_self M 1] at h
theorem q_eventNumber' (hR : pOk B (pV M 1) (pL M 1) s) {j : Nat} (hj : j < s 11) : f_X8_eventNumber M (nI j) = (none, nI (s (166 + 3 * j + 2)), M) := by
  have h := q_eventNumber hR M hj
  rwa [show puC M 1 (pV M 1) (pL M 1) = M from puC_self M 1] at h
theorem q_low' (hR : pOk B (pV M 1) (pL M 1) s) {n : Nat} (hn : n ≤ 1000) : f_X8_lowMinutes M (nI n) = (none, nI (tvCt (pLc (s 1) (s 2) (s 0)) n), M) ∧ f_X8_lowMinutesByCounting M (nI n) = (none, nI (tvCt (pLc (s 1) (s 2) (s 0)) n), M) := by
  have h := q_low hR M hn
  rwa [show puC M 1 (pV M 1) (pL M 1) = M from puC_self M 1] at h
theorem q_value' (hR : pOk B (pV M 1) (pL M 1) s)  : f_X8_totalValue M = lN (pSu s) := by
  have h := q_value hR M 
  rwa [show puC M 1 (pV M 1) (pL M 1) = M from puC_self M 1] at h
theorem q_ledger' (hR : pOk B (pV M 1) (pL M 1) s)  : f_X8_totalValueByLedger M = lN (pSu s) := by
  have h := q_ledger hR M 
  rwa [show puC M 1 (pV M 1) (pL M 1) = M from puC_self M 1] at h
theorem q_time' (hR : pOk B (pV M 1) (pL M 1) s)  : f_X8_time M = nI (s 0) := by
  have h := q_time hR M 
  rwa [show puC M 1 (pV M 1) (pL M 1) = M from puC_self M 1] at h
theorem q_alarm' (hR : pOk B (pV M 1) (pL M 1) s)  : f_X8_alarm M = nI (s 3) := by
  have h := q_alarm hR M 
  rwa [show puC M 1 (pV M 1) (pL M 1) = M from puC_self M 1] at h
theorem q_holders' (hR : pOk B (pV M 1) (pL M 1) s)  : f_X8_holders M = nI (s 9) := by
  have h := q_holders hR M 
  rwa [show puC M 1 (pV M 1) (pL M 1) = M from puC_self M 1] at h
theorem q_boxes' (hR : pOk B (pV M 1) (pL M 1) s)  : f_X8_boxes M = nI (s 10) := by
  have h := q_boxes hR M 
  rwa [show puC M 1 (pV M 1) (pL M 1) = M from puC_self M 1] at h
theorem q_events' (hR : pOk B (pV M 1) (pL M 1) s)  : f_X8_events M = nI (s 11) := by
  have h := q_events hR M 
  rwa [show puC M 1 (pV M 1) (pL M 1) = M from puC_self M 1] at h
theorem q_isLow' (hR : pOk B (pV M 1) (pL M 1) s)  : f_X8_isLowTide M = if s 0 % s 1 < s 2 then 1 else 0 := by
  have h := q_isLow hR M 
  rwa [show puC M 1 (pV M 1) (pL M 1) = M from puC_self M 1] at h
/-- by simulation: the same minute, and nothing changed but the rehearsal -/
theorem q_simul (hR : pOk B (pV M 1) (pL M 1) s) (hB : B + 3840 ≤ 10000000) {i K : Nat} (hi : i < s 10) (h2 : s (36 + 13 * i + 3) = 2) (hK : pOpK s i K) : ∃ c', f_X8_minutesUntilOpenBySimulation M (nI i) = (none, nI K, puC M 21 c' (pL M 1)) := by
  have hp := pPend hR M (nI i)
  rw [show puC M 1 (pV M 1) (pL M 1) = M from puC_self M 1] at hp
  rcases hp with ⟨j, hj, ex, h2', e⟩ | ⟨j, hj, ex, h2', e⟩ | ⟨h1, e⟩
  · obtain ⟨c, g, r⟩ := pc_reh hR
    have s10 := hR.1.2.1.2.2.2.2.2.2.2.2.1
    obtain ⟨c', w⟩ := pWf r hB M hi h2 hK 3840 0 c (by omega) r (by have := hK.1; omega)
    refine ⟨c', ?_⟩
    unfold f_X8_minutesUntilOpenBySimulation
    rw [e, pRef_0, if_pos rfl, g]
    unfold f_X6_waitForOpening
    rw [w]
  · have s10 := hR.1.2.1.2.2.2.2.2.2.2.2.1
    have : i = j := (pn_eq (by omega) (by omega)).1 ex
    subst this
    exact absurd h2 h2'
  · exact absurd ⟨i, hi, rfl⟩ h1
theorem q_cons (hR : pOk B (pV M 1) (pL M 1) s) (hB : B + 3840 ≤ 10000000) : ∃ c', f_X8_isConsistent M = (1, puC M 21 c' (pL M 1)) := pc_consistent hR hB M rfl rfl
theorem q_byValue (hR : pOk B (pV M 1) (pL M 1) s) (h0 : 0 < s 10) : ∃ v, v < 10 ∧ f_X8_boxByValue M (nI 0) = (none, nI v, M) := by
  have s10 := hR.1.2.1.2.2.2.2.2.2.2.2.1
  have c60 := hR.2.1.2.2.2.2.2.2.2.2
  obtain ⟨i, hi, hr⟩ := pRk_ex (pWo s) (s 10) 0 h0
  have hno := fa_first_no (fun i => decide (nI (pRk (pWo s) (s 10) i) = nI 0)) (s 10)
  have hlt : fa_first (fun i => decide (nI (pRk (pWo s) (s 10) i) = nI 0)) (s 10) < s 10 := by
    apply Nat.lt_of_not_le
    intro q
    have := hno i (by omega)
    simp [hr] at this
  refine ⟨fa_first (fun i => decide (nI (pRk (pWo s) (s 10) i) = nI 0)) (s 10), by omega, ?_⟩
  have k1 := pc_has1 M 1 (pL M 1) c60 s10 h0
  have k2 := pc_atRank hR M (nI 0)
  rw [show puC M 1 (pV M 1) (pL M 1) = M from puC_self M 1] at k1 k2
  unfold f_X8_boxByValue
  rw [k1, if_neg p10, k2, if_pos hlt]
end
/-- the line of signs -/
def pLf (M M1 : tvM) : Prop := (∀ a, a ≠ 247 → a ≠ 248 → M1.1 a = M.1 a) ∧ M1.2 = M.2 ∧ ∃ n : Nat, n ≤ 36 ∧ M1.1 247 1 = nI n
theorem pLf_e (M : tvM) : pLf M (f_X3_empty M) := ⟨fun a h _ => funext fun k => tpi_o M _ k h, rfl, 0, by omega, tpi_s M _ _ _⟩
theorem pLf_a {M M1 : tvM} (h : pLf M M1) (v : Int32) : pLf M (f_X3_add M1 v) := by
  obtain ⟨h1, h2, n, hn, h3⟩ := h
  unfold f_X3_add
  rw [show tgi M1 247 1 = nI n from h3, if_neg (pn_neg (by omega))]
  by_cases q : n = 36
  · rw [if_pos (by rw [pl_36, pn_le (by omega) (by omega)]; omega)]
    exact ⟨h1, h2, n, hn, h3⟩
  · rw [if_neg (by rw [pl_36, pn_le (by omega) (by omega)]; omega)]
    refine ⟨fun a q1 q2 => funext fun k => (tpi_o _ _ k q1).trans ((tpi_o _ _ k q2).trans (congrFun (h1 a q1 q2) k)), h2, n + 1, by omega, ?_⟩
    rw [tpi_s, show tgi (tpi M1 248 (nI n).toNatClampNeg v) 247 1 = nI n from (tpi_o _ _ 1 (by omega)).trans h3, nI_1]
theorem pLf_n {M M1 : tvM} (h : pLf M M1) (v : Int32) : pLf M (f_X3_addNumber M1 v) := by
  unfold f_X3_addNumber
  split
  · exact pLf_a h _
  · exact pLf_a (pLf_a h _) _
theorem pLf_we {M M1 : tvM} (h : pLf M M1) (i : Nat) : pLf M (tvWe M1 i) := by
  induction i with
  | zero => exact h
  | succ i ih =>
    rw [tvWe]
    split
    · exact pLf_n (pLf_a ih _) _
    · exact pLf_n (pLf_a (pLf_a ih _) _) _
theorem pLf_wb {M M1 : tvM} (h : pLf M M1) (x : Int32) (i : Nat) : pLf M (tvWb M1 x i) := by
  induction i with
  | zero => exact h
  | succ i ih =>
    rw [tvWb]
    split
    · exact pLf_n ih _
    · exact pLf_n (pLf_a ih _) _
theorem q_writeEvents (M : tvM) : ∃ (n : Nat) (M1 : tvM), n ≤ 36 ∧ f_X8_writeEvents M = (nI n, M1) ∧ (∀ a, a ≠ 247 → a ≠ 248 → M1.1 a = M.1 a) ∧ M1.2 = M.2 := by
  have h := pLf_we (pLf_e M) (tgi M 17 1).toNatClampNeg
  obtain ⟨h1, h2, n, hn, h3⟩ := h
  exact ⟨n, tvWeM M, hn, by unfold f_X8_writeEvents; exact Prod.ext h3 rfl, h1, h2⟩
theorem q_writeBox {B : Nat} {M : tvM} {s : Nat → Nat} (hR : pOk B (pV M 1) (pL M 1) s) (h0 : 0 < s 10) : ∃ (n : Nat) (M1 : tvM), n ≤ 36 ∧ f_X8_writeBox M (nI 0) = (none, nI n, M1) ∧ (∀ a, a ≠ 247 → a ≠ 248 → M1.1 a = M.1 a) ∧ M1.2 = M.2 := by
  have s10 := hR.1.2.1.2.2.2.2.2.2.2.2.1
  have c60 := hR.2.1.2.2.2.2.2.2.2.2
  have h : pLf M (tvWbM M (nI 0)) := pLf_wb (pLf_a (pLf_a (pLf_n (pLf_e M) _) _) _) _ _
  obtain ⟨h1, h2, n, hn, h3⟩ := h
  have k1 := pc_has1 M 1 (pL M 1) c60 s10 h0
  rw [show puC M 1 (pV M 1) (pL M 1) = M from puC_self M 1] at k1
  refine ⟨n, tvWbM M (nI 0), hn, ?_, h1, h2⟩
  unfold f_X8_writeBox f_X8_refusalOfBoxNumber
  rw [k1, if_neg p10, pRef_0, if_pos rfl, show tgi (tvWbM M (nI 0)) 247 1 = nI n from h3]
