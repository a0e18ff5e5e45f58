section
variable {B : Nat} {c : Nat → Nat → Int32} {l : Int64} {s : Nat → Nat}
theorem px_notPend (hR : pOk B c l s) (M' : tvM) (t x : Int32) : (¬ (∃ i, i < s 10 ∧ x = nI i) → f_X9_isNotPending (puN M' s t) x = (1, puN M' s (nI 1)) ∧ q_X9_isNotPending (puN M' s t) x) ∧ (∀ i, i < s 10 → x = nI i → s (36 + 13 * i + 3) ≠ 2 → f_X9_isNotPending (puN M' s t) x = (1, puN M' s (nI 2)) ∧ q_X9_isNotPending (puN M' s t) x) := by
  obtain ⟨⟨hb, hs, hh, hx, he, hsum⟩, ⟨hc, hch, hcx, hcl⟩⟩ := id hR
  have hs' := hs
  obtain ⟨s0, s1, s2, s3, s45, s67, s8, s9, s10, s11, sB⟩ := hs
  have hc' := hc
  obtain ⟨c04, c05, c06, c07, cl, c10, c11, c20, c60⟩ := hc
  constructor
  · intro h1
    have g1 := px_box0 M' s t x s10 h1
    unfold f_X9_isNotPending q_X9_isNotPending
    rw [g1, if_pos (show nI 0 = 0 from rfl), px_thrn, pl_1, puN_pt]
    exact ⟨rfl, fun _ => trivial, fun hn => absurd rfl hn⟩
  · intro i hi ex h2
    subst ex
    have g1 := px_box1 M' s t s10 hi
    have h3 := (hx i (by omega)).2.1
    have e3 : ∀ t, f_X9_of (puN M' s t) (nI i) 3 = nI (s (36 + 13 * i + 3)) := fun t => px_of M' s t (w := 3) (by omega) (by omega)
    have e0 : (f_X9_isThrown (puN M' s (nI 0)) 1 2).2 = puN M' s (nI 2) := by
      unfold f_X9_isThrown
      rw [if_neg p10]
      exact puN_pt _ _ _ _
    unfold f_X9_isNotPending q_X9_isNotPending
    rw [g1, if_neg (show ¬ nI 1 = 0 by decide), px_thr, show tpi (puN M' s t) 249 5 0 = puN M' s (nI 0) from puN_pt _ _ _ _, e3, if_neg (by rw [pl_2, pn_eq (by omega) (by omega)]; exact h2), e0]
    exact ⟨rfl, fun q => absurd q (by decide), fun _ => ⟨px_qof _ (w := 3) (by omega) (by omega), fun _ => trivial, fun _ => trivial⟩⟩
theorem px_untilNo (M' : tvM) (t x : Int32) (k : Nat) (np1 : f_X9_isNotPending (puN M' s t) x = (1, puN M' s (nI k))) (np2 : q_X9_isNotPending (puN M' s t) x) : q_X9_minutesUntilOpen (puN M' s t) x ∧ f_X9_minutesUntilOpen (puN M' s t) x = (nI 0, puN M' s (nI k)) := by
  have he' : e_X9_minutesUntilOpen (puN M' s t) x = .inr (nI 0, puN M' s (nI k)) := by
    unfold e_X9_minutesUntilOpen
    rw [np1]
    dsimp only
    rw [if_neg p10]
    rfl
  have lp : pEnd (s_X9_minutesUntilOpen x) (qs_X9_minutesUntilOpen x) 5000 (.inr (nI 0, puN M' s (nI k))) (nI 0, puN M' s (nI k)) := pEnd_r _ _
  rw [← he'] at lp
  refine ⟨⟨?_, ⟨_, lp.1⟩, lp.2⟩, pGet lp.1⟩
  unfold qe_X9_minutesUntilOpen
  rw [np1]
  exact ⟨np2, fun e => absurd e p10, fun _ => trivial⟩
/-- the three ways a box can stand -/
theorem pPend (hR : pOk B c l s) (M : tvM) (x1 : Int32) : (∃ i, i < s 10 ∧ x1 = nI i ∧ s (36 + 13 * i + 3) = 2 ∧ f_X8_refusalUnless (puC M 1 c l) 112 x1 = 0) ∨ (∃ i, i < s 10 ∧ x1 = nI i ∧ s (36 + 13 * i + 3) ≠ 2 ∧ f_X8_refusalUnless (puC M 1 c l) 112 x1 = 5) ∨ ((¬ ∃ i, i < s 10 ∧ x1 = nI i) ∧ f_X8_refusalUnless (puC M 1 c l) 112 x1 = 1) := by
  obtain ⟨⟨hb, hs, hh, hx, he, hsum⟩, ⟨hc, hch, hcx, hcl⟩⟩ := id hR
  have hs' := hs
  obtain ⟨s0, s1, s2, s3, s45, s67, s8, s9, s10, s11, sB⟩ := hs
  have hc' := hc
  obtain ⟨c04, c05, c06, c07, cl, c10, c11, c20, c60⟩ := hc
  unfold f_X8_refusalUnless
  by_cases h1 : ∃ i, i < s 10 ∧ x1 = nI i
  · obtain ⟨i, hi, rfl⟩ := h1
    have h3 := (hx i (by omega)).2.1
    rw [pc_has1 M 1 l c60 s10 hi, if_neg p10, pc_status M 1 l c60 s10 hi, (hcx i hi).2.2.2.1, pSt_tnc]
    by_cases q : s (36 + 13 * i + 3) = 2
    · exact Or.inl ⟨i, hi, rfl, q, by rw [if_pos ((pSt_eq _ h3).2.2.1.2 q)]⟩
    · exact Or.inr (Or.inl ⟨i, hi, rfl, q, by rw [if_neg (fun e => q ((pSt_eq _ h3).2.2.1.1 e))]⟩)
  · exact Or.inr (Or.inr ⟨h1, by rw [pc_has0 M 1 l c60 s10 h1, if_pos rfl]⟩)
theorem pAsk_minutesUntilOpen (hR : pOk B c l s) (M : tvM) (x1 : Int32) : pAsk (puC M 1 c l) s (f_X8_minutesUntilOpen (puC M 1 c l) x1) (fun m => f_X9_minutesUntilOpen m x1) (fun m => q_X9_minutesUntilOpen m x1) [("java/lang/IndexOutOfBoundsException", 1), ("java/util/NoSuchElementException", 2)] := by
  have s10 := hR.1.2.1.2.2.2.2.2.2.2.2.1
  rcases pPend hR M x1 with ⟨i, hi, ex, h2, e⟩ | ⟨i, hi, ex, h2, e⟩ | ⟨h1, e⟩
  · obtain ⟨K, hK⟩ := pOpK_ex hR (i := i) (by omega)
    subst ex
    refine Or.inl ⟨nI K, ?_, fun M' t => px_untilOpen hR M' t hi h2 hK⟩
    unfold f_X8_minutesUntilOpen
    rw [e, pRef_0, if_pos rfl, pc_search hR M hi h2 hK]
  · refine Or.inr ⟨("java/util/NoSuchElementException", 2), by simp, ?_, fun M' t => ?_⟩
    · unfold f_X8_minutesUntilOpen
      rw [e, pRef_5]
      simp
    · obtain ⟨a1, a2⟩ := (px_notPend hR M' t x1).2 i hi ex h2
      exact px_untilNo M' t x1 2 a1 a2
  · refine Or.inr ⟨("java/lang/IndexOutOfBoundsException", 1), by simp, ?_, fun M' t => ?_⟩
    · unfold f_X8_minutesUntilOpen
      rw [e, pRef_1]
      simp
    · obtain ⟨a1, a2⟩ := (px_notPend hR M' t x1).1 h1
      exact px_untilNo M' t x1 1 a1 a2
/-! ===== the simulation ===== -/
theorem pWf (hR : pOk B c l s) (hB : B + 3840 ≤ 10000000) (M : tvM) {i K : Nat} (hi : i < s 10) (h2 : s (36 + 13 * i + 3) = 2) (hK : pOpK s i K) : ∀ n k c, n + k = 3840 → pOk (B + k) c l (pIt s k) → k < K → ∃ c', tvWf 21 (nI i) n (k + 1) (puC M 21 c l) = (nI K, puC M 21 c' l) := by
  intro n
  induction n with
  | zero =>
    intro k c hk _ hlt
    have := hK.2.1
    omega
  | succ n ih =>
    intro k c hk r hlt
    obtain ⟨c2, g, _, r2, _⟩ := pMinute r (by omega)
    have eN : pIt s (k + 1) = pMin (pIt s k) := rfl
    rw [← eN] at r2
    obtain ⟨_, _, _, _, i10, _⟩ := pReh hR (k + 1) (by omega)
    have hj := pc_just r2 M 21 (i := i) (by omega)
    have hjj := pReh_just hR (k := k + 1) (by omega) (by omega) hi
    show ∃ c', (if f_X6_hasJustOpened (f_X6_minute (puC M 21 c l) 21).2 21 (nI i) = 0 then tvWf 21 (nI i) n (k + 1 + 1) (f_X6_minute (puC M 21 c l) 21).2 else (nI (k + 1), (f_X6_minute (puC M 21 c l) 21).2)) = (nI K, puC M 21 c' l)
    rw [g, hj]
    by_cases q : k + 1 = K
    · rw [if_pos (hjj.2 ⟨h2, by rw [q]; exact hK⟩), if_neg p10, q]
      exact ⟨c2, rfl⟩
    · rw [if_neg (fun e => q (pIsK_u (hjj.1 e).2 hK)), if_pos rfl]
      exact ih (k + 1) c2 (by omega) (by rw [← Nat.add_assoc] at *; exact r2) (by omega)
end

