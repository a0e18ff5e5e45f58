/-! ===== ranks ===== -/
/-- j stands before i -/
def pA (w : Nat → Nat) (i j : Nat) : Prop := w i < w j ∨ (w j = w i ∧ j < i)
def pAb (w : Nat → Nat) (i j : Nat) : Bool := decide (w i < w j) || (decide (w j = w i) && decide (j < i))
theorem pAb_iff (w : Nat → Nat) (i j : Nat) : pAb w i j = true ↔ pA w i j := by
  unfold pAb pA
  simp
def pRk (w : Nat → Nat) (n i : Nat) : Nat := tvCt (pAb w i) n
theorem pA_max (w : Nat → Nat) (P : Nat → Prop) (n : Nat) (h : ∃ i, i < n ∧ P i) : ∃ m, m < n ∧ P m ∧ ∀ j, j < n → P j → ¬ pA w m j := by
  induction n with
  | zero =>
    obtain ⟨i, hi, _⟩ := h
    omega
  | succ n ih =>
    by_cases hp : P n
    · by_cases h2 : ∃ i, i < n ∧ P i
      · obtain ⟨m, hm, pm, hj⟩ := ih h2
        by_cases h3 : pA w m n
        · refine ⟨n, by omega, hp, fun j hjn pj hA => ?_⟩
          by_cases e : j = n
          · subst e
            unfold pA at hA
            omega
          · apply hj j (by omega) pj
            unfold pA at hA h3 ⊢
            omega
        · refine ⟨m, by omega, pm, fun j hjn pj => ?_⟩
          by_cases e : j = n
          · subst e
            exact h3
          · exact hj j (by omega) pj
      · refine ⟨n, by omega, hp, fun j hjn pj hA => ?_⟩
        by_cases e : j = n
        · subst e
          unfold pA at hA
          omega
        · exact h2 ⟨j, by omega, pj⟩
    · obtain ⟨i, hi, pi⟩ := h
      have : i ≠ n := fun e => hp (e ▸ pi)
      obtain ⟨m, hm, pm, hj⟩ := ih ⟨i, by omega, pi⟩
      refine ⟨m, by omega, pm, fun j hjn pj => ?_⟩
      have : j ≠ n := fun e => hp (e ▸ pj)
      exact hj j (by omega) pj
theorem tvCt_0 {f : Nat → Bool} {n : Nat} (h : ∀ j, j < n → f j = false) : tvCt f n = 0 := by
  induction n with
  | zero => rfl
  | succ n ih =>
    rw [tvCt_s, ih fun j hj => h j (by omega), h n (by omega)]
    rfl
theorem tvCt_but {f : Nat → Bool} {n i : Nat} (h : ∀ j, j < n → j ≠ i → f j = true) : n ≤ tvCt f n + 1 ∧ (n ≤ i → n ≤ tvCt f n) := by
  induction n with
  | zero => exact ⟨by omega, by omega⟩
  | succ n ih =>
    obtain ⟨h1, h2⟩ := ih fun j hj => h j (by omega)
    rw [tvCt_s]
    by_cases e : n = i
    · have := h2 (by omega)
      exact ⟨by omega, by omega⟩
    · rw [if_pos (h n (by omega) e)]
      exact ⟨by omega, fun q => by have := h2 (by omega); omega⟩
theorem tvCt_or {f : Nat → Bool} {n i : Nat} (h : f i = false) : tvCt (fun j => f j || decide (j = i)) n = tvCt f n + (if i < n then 1 else 0) := by
  induction n with
  | zero => rfl
  | succ n ih =>
    rw [tvCt_s, tvCt_s, ih]
    by_cases e : n = i
    · subst e
      rw [h]
      simp
    · by_cases e2 : i < n
      · have e3 : i < n + 1 := by omega
        cases f n <;> simp [e, e2, e3] <;> omega
      · have e3 : ¬ i < n + 1 := by omega
        cases f n <;> simp [e, e2, e3]
theorem pRk_lt (w : Nat → Nat) {n i : Nat} (h : i < n) : pRk w n i < n := by
  have h0 : pAb w i i = false := by
    cases q : pAb w i i with
    | false => rfl
    | true =>
      have := (pAb_iff w i i).1 q
      unfold pA at this
      omega
  have := tvCt_or (f := pAb w i) (n := n) h0
  have l := tvCt_le (fun j => pAb w i j || decide (j = i)) n
  rw [if_pos h] at this
  unfold pRk
  omega
theorem pRk_ex (w : Nat → Nat) (n : Nat) : ∀ k, k < n → ∃ i, i < n ∧ pRk w n i = k := by
  intro k
  induction k with
  | zero =>
    intro hk
    obtain ⟨m, hm, _, hj⟩ := pA_max w (fun _ => True) n ⟨0, hk, trivial⟩
    refine ⟨m, hm, tvCt_0 fun j hjn => ?_⟩
    cases q : pAb w m j with
    | false => rfl
    | true => exact absurd ((pAb_iff w m j).1 q) (hj j hjn trivial)
  | succ k ih =>
    intro hk
    obtain ⟨i, hi, hr⟩ := ih (by omega)
    have hne : ∃ j, j < n ∧ (j ≠ i ∧ ¬ pA w i j) := by
      apply Classical.byContradiction
      intro hno
      have := tvCt_but (f := pAb w i) (n := n) (i := i) fun j hj e => (pAb_iff w i j).2 (Classical.byContradiction fun q => hno ⟨j, hj, e, q⟩)
      unfold pRk at hr
      omega
    obtain ⟨m, hm, ⟨m1, m2⟩, hj⟩ := pA_max w (fun j => j ≠ i ∧ ¬ pA w i j) n hne
    have h0 : pAb w i i = false := by
      cases q : pAb w i i with
      | false => rfl
      | true =>
        have := (pAb_iff w i i).1 q
        unfold pA at this
        omega
    have im : pA w m i := by
      unfold pA at m2 ⊢
      omega
    have e : ∀ j, j < n → pAb w m j = (pAb w i j || decide (j = i)) := fun j hjn => by
      have a1 := pAb_iff w m j
      have a2 := pAb_iff w i j
      by_cases q : j = i
      · subst q
        rw [a1.2 im]
        simp
      · by_cases q2 : pA w i j
        · rw [a2.2 q2, a1.2 (by unfold pA at im q2 ⊢; omega)]
          rfl
        · have n1 : ¬ pA w m j := hj j hjn ⟨q, q2⟩
          have f1 : pAb w m j = false := by
            cases z : pAb w m j with
            | false => rfl
            | true => exact absurd (a1.1 z) n1
          have f2 : pAb w i j = false := by
            cases z : pAb w i j with
            | false => rfl
            | true => exact absurd (a2.1 z) q2
          rw [f1, f2]
          simp [q]
    refine ⟨m, hm, ?_⟩
    have := tvCt_or (f := pAb w i) (n := n) h0
    rw [if_pos hi] at this
    unfold pRk at hr ⊢
    rw [tvCt_c e, this, hr]
/-! ===== the box at a rank ===== -/
section
variable {B : Nat} {c : Nat → Nat → Int32} {l : Int64} {s : Nat → Nat}
theorem pc_rank (hR : pOk B c l s) (M : tvM) (b : Nat) {i : Nat} (hi : i < s 10) : f_X0_rankOf (puC M b c l) b (nI i) = nI (pRk (pWo s) (s 10) i) := by
  obtain ⟨⟨hb, hs, hh, hx, he, hsum⟩, ⟨hc, hch, hcx, hcl⟩⟩ := id hR
  have hs' := hs
  obtain ⟨s0, s1, s2, s3, s45, s67, s8, s9, s10, s11, sB⟩ := hs
  have hc' := hc
  obtain ⟨c04, c05, c06, c07, cl, c10, c11, c20, c60⟩ := hc
  unfold f_X0_rankOf
  rw [puC_g6, c60, pn_c (by omega)]
  congr 1
  refine tvCt_c fun j hj => ?_
  have w1 := pWo_le hR (i := i) (by omega)
  have w2 := pWo_le hR (i := j) (by omega)
  unfold tvAhead pAb
  rw [pc_sumIn hR M b hi, pc_sumIn hR M b hj]
  have e1 : decide (nI (pWo s i) < nI (pWo s j)) = decide (pWo s i < pWo s j) := by
    rw [decide_eq_decide]; exact pn_lt (by omega) (by omega)
  have e2 : decide (nI (pWo s j) = nI (pWo s i)) = decide (pWo s j = pWo s i) := by
    rw [decide_eq_decide]; exact pn_eq (by omega) (by omega)
  have e3 : (!decide (nI i ≤ nI j)) = decide (j < i) := by
    rw [← decide_not, decide_eq_decide, pn_le (by omega) (by omega)]; omega
  rw [e1, e2, e3]
theorem pc_atRank (hR : pOk B c l s) (M : tvM) (x : Int32) : f_X0_atRank (puC M 1 c l) 1 x = if fa_first (fun i => decide (nI (pRk (pWo s) (s 10) i) = x)) (s 10) < s 10 then nI (fa_first (fun i => decide (nI (pRk (pWo s) (s 10) i) = x)) (s 10)) else (-1) := by
  obtain ⟨⟨hb, hs, hh, hx, he, hsum⟩, ⟨hc, hch, hcx, hcl⟩⟩ := id hR
  have hs' := hs
  obtain ⟨s0, s1, s2, s3, s45, s67, s8, s9, s10, s11, sB⟩ := hs
  have hc' := hc
  obtain ⟨c04, c05, c06, c07, cl, c10, c11, c20, c60⟩ := hc
  have e : ∀ n, n ≤ s 10 → fa_first (tvRk (puC M 1 c l) 1 x) n = fa_first (fun i => decide (nI (pRk (pWo s) (s 10) i) = x)) n := by
    intro n
    induction n with
    | zero => intro _; rfl
    | succ n ih =>
      intro hn
      unfold fa_first
      rw [ih (by omega), show tvRk (puC M 1 c l) 1 x n = decide (nI (pRk (pWo s) (s 10) n) = x) from by unfold tvRk; rw [pc_rank hR M 1 (by omega)]]
  unfold f_X0_atRank
  rw [puC_g6, c60, pn_c (by omega), e _ (Nat.le_refl _)]
theorem px_round (hR : pOk B c l s) (M' : tvM) (t x : Int32) {i F : Nat} {r : Int32 × tvM} (hi : i < s 10) (hrn : ¬ nI (pRk (pWo s) (s 10) i) = x) (h : pEnd (s_X9_boxByValue x) (qs_X9_boxByValue x) F (.inl (0, nI (i + 1), 0, 0, 0, puN M' s t)) r) : pEnd (s_X9_boxByValue x) (qs_X9_boxByValue x) (F + 1 + s 10 + 1) (.inl (0, nI i, 0, 0, 0, puN M' s t)) r := by
  obtain ⟨⟨hb, hs, hh, hx, he, hsum⟩, ⟨hc, hch, hcx, hcl⟩⟩ := id hR
  have hs' := hs
  obtain ⟨s0, s1, s2, s3, s45, s67, s8, s9, s10, s11, sB⟩ := hs
  have hc' := hc
  obtain ⟨c04, c05, c06, c07, cl, c10, c11, c20, c60⟩ := hc
  refine pEnd_1 (y := .inl (1, nI i, nI (tvCt (pAb (pWo s) i) 0), nI 0, 0, puN M' s t)) ?_ ?_ (pEnd_n (fun j => (1, nI i, nI (tvCt (pAb (pWo s) i) j), nI j, 0, puN M' s t)) (s 10) (fun j hj => ?_) (fun j hj => ?_) (pEnd_1 (y := .inl (0, nI (i + 1), 0, 0, 0, puN M' s t)) ?_ ?_ h))
  · unfold s_X9_boxByValue sb_X9_boxByValue
    simp only [if_true]
    rw [puN_g, if_neg (by rw [pn_le (by omega) (by omega)]; omega)]
    rfl
  · unfold qs_X9_boxByValue qb_X9_boxByValue
    exact ⟨fun _ => ⟨fun _ => trivial, fun _ => trivial⟩, fun q => absurd q (by simp)⟩
  · have w1 := pWo_le hR (i := i) (by omega)
    have w2 := pWo_le hR (i := j) (by omega)
    unfold s_X9_boxByValue sb_X9_boxByValue
    simp only [Nat.one_ne_zero, if_false]
    rw [puN_g, if_neg (by rw [pn_le (by omega) (by omega)]; omega), (px_worth hR M' t (i := j) (by omega)).2, (px_worth hR M' t (i := i) (by omega)).2, tvCt_s]
    unfold pAb
    by_cases q1 : pWo s i < pWo s j
    · rw [pn_sub (by omega), if_pos (by rw [pl_0, pn_lt (by omega) (by omega)]; omega), nI_1, nI_1]
      simp [q1]
    · by_cases q2 : pWo s j = pWo s i
      · rw [q2, pn_sub (by omega), if_neg (by rw [pl_0, pn_lt (by omega) (by omega)]; omega), if_pos (by rw [Nat.sub_self]; rfl)]
        by_cases q3 : j < i
        · rw [if_neg (by rw [pn_le (by omega) (by omega)]; omega), nI_1, nI_1]
          simp [q3]
        · rw [if_pos (by rw [pn_le (by omega) (by omega)]; omega), nI_1, Int32.add_zero]
          simp [q3]
      · have q4 : pWo s j < pWo s i := by omega
        have e1 : ¬ (0 : Int32) < nI (pWo s j) - nI (pWo s i) ∧ ¬ nI (pWo s j) - nI (pWo s i) = 0 := by
          have e2 : (nI (pWo s j) - nI (pWo s i)).toInt = (pWo s j : Int) - (pWo s i : Int) := by
            rw [Int32.toInt_sub, nI_toInt (by omega), nI_toInt (by omega)]
            rw [show (2 : Nat) ^ 32 = 4294967296 from rfl]
            unfold Int.bmod
            simp only []
            split <;> omega
          have z : (0 : Int32).toInt = 0 := by decide
          refine ⟨fun e => ?_, fun e => ?_⟩
          · rw [Int32.lt_iff_toInt_lt, e2] at e
            omega
          · rw [e] at e2
            omega
        rw [if_neg e1.1, if_neg e1.2, nI_1, Int32.add_zero]
        simp [q1, q2]
  · unfold qs_X9_boxByValue qb_X9_boxByValue
    exact ⟨fun q => absurd q (by simp), fun _ => ⟨fun _ => ⟨fun _ => trivial, fun _ => trivial⟩, fun _ => ⟨(px_worth hR M' t (i := j) (by omega)).1, (px_worth hR M' t (i := i) (by omega)).1, fun _ => trivial, fun _ => ⟨fun _ => ⟨fun _ => trivial, fun _ => trivial⟩, fun _ => trivial⟩⟩⟩⟩
  · unfold s_X9_boxByValue sb_X9_boxByValue
    simp only [Nat.one_ne_zero, if_false]
    rw [puN_g, if_pos (by rw [pn_le (by omega) (by omega)]; omega), if_neg (show ¬ nI (tvCt (pAb (pWo s) i) (s 10)) = x from hrn), nI_1]
  · unfold qs_X9_boxByValue qb_X9_boxByValue
    refine ⟨fun q => absurd q (by simp), fun _ => ⟨fun _ => ⟨fun _ => trivial, fun _ => trivial⟩, fun hn => absurd ?_ hn⟩⟩
    simp only []
    rw [puN_g, pn_le (by omega) (by omega)]
    omega
theorem px_found (hR : pOk B c l s) (M' : tvM) (t x : Int32) {i : Nat} (hi : i < s 10) (hrn : nI (pRk (pWo s) (s 10) i) = x) : pEnd (s_X9_boxByValue x) (qs_X9_boxByValue x) (0 + 1 + s 10 + 1) (.inl (0, nI i, 0, 0, 0, puN M' s t)) (nI i, puN M' s (nI 0)) := by
  obtain ⟨⟨hb, hs, hh, hx, he, hsum⟩, ⟨hc, hch, hcx, hcl⟩⟩ := id hR
  have hs' := hs
  obtain ⟨s0, s1, s2, s3, s45, s67, s8, s9, s10, s11, sB⟩ := hs
  have hc' := hc
  obtain ⟨c04, c05, c06, c07, cl, c10, c11, c20, c60⟩ := hc
  refine pEnd_1 (y := .inl (1, nI i, nI (tvCt (pAb (pWo s) i) 0), nI 0, 0, puN M' s t)) ?_ ?_ (pEnd_n (fun j => (1, nI i, nI (tvCt (pAb (pWo s) i) j), nI j, 0, puN M' s t)) (s 10) (fun j hj => ?_) (fun j hj => ?_) (pEnd_1 (y := .inr (nI i, puN M' s (nI 0))) ?_ ?_ (pEnd_r _ _)))
  · unfold s_X9_boxByValue sb_X9_boxByValue
    simp only [if_true]
    rw [puN_g, if_neg (by rw [pn_le (by omega) (by omega)]; omega)]
    rfl
  · unfold qs_X9_boxByValue qb_X9_boxByValue
    exact ⟨fun _ => ⟨fun _ => trivial, fun _ => trivial⟩, fun q => absurd q (by simp)⟩
  · have w1 := pWo_le hR (i := i) (by omega)
    have w2 := pWo_le hR (i := j) (by omega)
    unfold s_X9_boxByValue sb_X9_boxByValue
    simp only [Nat.one_ne_zero, if_false]
    rw [puN_g, if_neg (by rw [pn_le (by omega) (by omega)]; omega), (px_worth hR M' t (i := j) (by omega)).2, (px_worth hR M' t (i := i) (by omega)).2, tvCt_s]
    unfold pAb
    by_cases q1 : pWo s i < pWo s j
    · rw [pn_sub (by omega), if_pos (by rw [pl_0, pn_lt (by omega) (by omega)]; omega), nI_1, nI_1]
      simp [q1]
    · by_cases q2 : pWo s j = pWo s i
      · rw [q2, pn_sub (by omega), if_neg (by rw [pl_0, pn_lt (by omega) (by omega)]; omega), if_pos (by rw [Nat.sub_self]; rfl)]
        by_cases q3 : j < i
        · rw [if_neg (by rw [pn_le (by omega) (by omega)]; omega), nI_1, nI_1]
          simp [q3]
        · rw [if_pos (by rw [pn_le (by omega) (by omega)]; omega), nI_1, Int32.add_zero]
          simp [q3]
      · have q4 : pWo s j < pWo s i := by omega
        have e1 : ¬ (0 : Int32) < nI (pWo s j) - nI (pWo s i) ∧ ¬ nI (pWo s j) - nI (pWo s i) = 0 := by
          have e2 : (nI (pWo s j) - nI (pWo s i)).toInt = (pWo s j : Int) - (pWo s i : Int) := by
            rw [Int32.toInt_sub, nI_toInt (by omega), nI_toInt (by omega)]
            rw [show (2 : Nat) ^ 32 = 4294967296 from rfl]
            unfold Int.bmod
            simp only []
            split <;> omega
          have z : (0 : Int32).toInt = 0 := by decide
          refine ⟨fun e => ?_, fun e => ?_⟩
          · rw [Int32.lt_iff_toInt_lt, e2] at e
            omega
          · rw [e] at e2
            omega
        rw [if_neg e1.1, if_neg e1.2, nI_1, Int32.add_zero]
        simp [q1, q2]
  · unfold qs_X9_boxByValue qb_X9_boxByValue
    exact ⟨fun q => absurd q (by simp), fun _ => ⟨fun _ => ⟨fun _ => trivial, fun _ => trivial⟩, fun _ => ⟨(px_worth hR M' t (i := j) (by omega)).1, (px_worth hR M' t (i := i) (by omega)).1, fun _ => trivial, fun _ => ⟨fun _ => ⟨fun _ => trivial, fun _ => trivial⟩, fun _ => trivial⟩⟩⟩⟩
  · unfold s_X9_boxByValue sb_X9_boxByValue
    simp only [Nat.one_ne_zero, if_false]
    rw [puN_g, if_pos (by rw [pn_le (by omega) (by omega)]; omega), if_pos (show nI (tvCt (pAb (pWo s) i) (s 10)) = x from hrn), show (tpi (puN M' s t) 249 5 0) = puN M' s (nI 0) from puN_pt _ _ _ _]
  · unfold qs_X9_boxByValue qb_X9_boxByValue
    refine ⟨fun q => absurd q (by simp), fun _ => ⟨fun _ => ⟨fun _ => trivial, fun _ => trivial⟩, fun hn => absurd ?_ hn⟩⟩
    simp only []
    rw [puN_g, pn_le (by omega) (by omega)]
    omega
theorem px_byValue (hR : pOk B c l s) (M' : tvM) (t x : Int32) : q_X9_boxByValue (puN M' s t) x ∧ f_X9_boxByValue (puN M' s t) x = (if fa_first (fun i => decide (nI (pRk (pWo s) (s 10) i) = x)) (s 10) < s 10 then (nI (fa_first (fun i => decide (nI (pRk (pWo s) (s 10) i) = x)) (s 10)), puN M' s (nI 0)) else (nI 0, puN M' s (nI 1))) := by
  obtain ⟨⟨hb, hs, hh, hx, he, hsum⟩, ⟨hc, hch, hcx, hcl⟩⟩ := id hR
  have hs' := hs
  obtain ⟨s0, s1, s2, s3, s45, s67, s8, s9, s10, s11, sB⟩ := hs
  have hc' := hc
  obtain ⟨c04, c05, c06, c07, cl, c10, c11, c20, c60⟩ := hc
  have hl := fa_first_le (fun i => decide (nI (pRk (pWo s) (s 10) i) = x)) (s 10)
  have hno := fa_first_no (fun i => decide (nI (pRk (pWo s) (s 10) i) = x)) (s 10)
  have hyes := fa_first_yes (fun i => decide (nI (pRk (pWo s) (s 10) i) = x)) (s 10)
  generalize hm : fa_first (fun i => decide (nI (pRk (pWo s) (s 10) i) = x)) (s 10) = m at hl hno hyes
  have key : ∀ (r : Int32 × tvM) F, pEnd (s_X9_boxByValue x) (qs_X9_boxByValue x) F (.inl (0, nI m, 0, 0, 0, puN M' s t)) r → ∀ d i, i + d = m → pEnd (s_X9_boxByValue x) (qs_X9_boxByValue x) (F + d * (s 10 + 2)) (.inl (0, nI i, 0, 0, 0, puN M' s t)) r := by
    intro r F h d
    induction d with
    | zero =>
      intro i e
      rw [Nat.zero_mul, show i = m by omega]
      exact h
    | succ d ih =>
      intro i e
      have := px_round hR M' t x (i := i) (by omega) (by
        have := hno i (by omega)
        simpa using this) (ih (i + 1) (by omega))
      rw [show F + (d + 1) * (s 10 + 2) = F + d * (s 10 + 2) + 1 + s 10 + 1 by rw [Nat.add_mul]; omega]
      exact this
  have he' : e_X9_boxByValue (puN M' s t) x = .inl (0, nI 0, 0, 0, 0, puN M' s t) := rfl
  have fin : ∀ (r : Int32 × tvM) F, F ≤ 100 → pEnd (s_X9_boxByValue x) (qs_X9_boxByValue x) F (.inl (0, nI m, 0, 0, 0, puN M' s t)) r → q_X9_boxByValue (puN M' s t) x ∧ f_X9_boxByValue (puN M' s t) x = r := by
    intro r F hF h
    have hb2 : m * (s 10 + 2) ≤ 10 * 12 := Nat.mul_le_mul (by omega) (by omega)
    have l0 := pEnd_to (F' := 5000) (key r F h m 0 (by omega)) (by omega)
    rw [← he'] at l0
    exact ⟨⟨trivial, ⟨_, l0.1⟩, l0.2⟩, pGet l0.1⟩
  by_cases q : m < s 10
  · rw [if_pos q]
    exact fin _ _ (by omega) (px_found hR M' t x q (by simpa using hyes q))
  · rw [if_neg q]
    refine fin _ 1 (by omega) (pEnd_1 (y := .inr (nI 0, puN M' s (nI 1))) ?_ ?_ (pEnd_r 0 _))
    · unfold s_X9_boxByValue sb_X9_boxByValue
      simp only [if_true]
      rw [puN_g, if_pos (by rw [pn_le (by omega) (by omega)]; omega), show (tpi (puN M' s t) 249 5 1) = puN M' s (nI 1) from puN_pt _ _ _ _]
      rfl
    · unfold qs_X9_boxByValue qb_X9_boxByValue
      exact ⟨fun _ => ⟨fun _ => trivial, fun _ => trivial⟩, fun q => absurd q (by simp)⟩
theorem pAsk_boxByValue (hR : pOk B c l s) (M : tvM) (x1 : Int32) : pAsk (puC M 1 c l) s (f_X8_boxByValue (puC M 1 c l) x1) (fun m => f_X9_boxByValue m x1) (fun m => q_X9_boxByValue m x1) [("java/util/NoSuchElementException", 1)] := by
  obtain ⟨⟨hb, hs, hh, hx, he, hsum⟩, ⟨hc, hch, hcx, hcl⟩⟩ := id hR
  have hs' := hs
  obtain ⟨s0, s1, s2, s3, s45, s67, s8, s9, s10, s11, sB⟩ := hs
  have hc' := hc
  obtain ⟨c04, c05, c06, c07, cl, c10, c11, c20, c60⟩ := hc
  have hl := fa_first_le (fun i => decide (nI (pRk (pWo s) (s 10) i) = x1)) (s 10)
  have hno := fa_first_no (fun i => decide (nI (pRk (pWo s) (s 10) i) = x1)) (s 10)
  have hyes := fa_first_yes (fun i => decide (nI (pRk (pWo s) (s 10) i) = x1)) (s 10)
  by_cases h1 : ∃ i, i < s 10 ∧ x1 = nI i
  · obtain ⟨k, hk, rfl⟩ := h1
    obtain ⟨i, hi, hr⟩ := pRk_ex (pWo s) (s 10) k hk
    have hlt : fa_first (fun i => decide (nI (pRk (pWo s) (s 10) i) = nI k)) (s 10) < s 10 := by
      apply Nat.lt_of_not_le
      intro q
      have := hno i (by omega)
      simp [hr] at this
    refine Or.inl ⟨nI (fa_first (fun i => decide (nI (pRk (pWo s) (s 10) i) = nI k)) (s 10)), ?_, fun M' t => ?_⟩
    · unfold f_X8_boxByValue
      rw [pc_has1 M 1 l c60 s10 hk, if_neg p10, pc_atRank hR, if_pos hlt]
    · obtain ⟨q, e⟩ := px_byValue hR M' t (nI k)
      rw [if_pos hlt] at e
      exact ⟨q, e⟩
  · have hnl : ¬ fa_first (fun i => decide (nI (pRk (pWo s) (s 10) i) = x1)) (s 10) < s 10 := fun q => by
      have h2 := hyes q
      simp only [decide_eq_true_eq] at h2
      exact h1 ⟨_, pRk_lt (pWo s) q, h2.symm⟩
    refine Or.inr ⟨_, List.mem_singleton.2 rfl, ?_, fun M' t => ?_⟩
    · unfold f_X8_boxByValue
      rw [pc_has0 M 1 l c60 s10 h1, if_pos rfl]
    · obtain ⟨q, e⟩ := px_byValue hR M' t x1
      rw [if_neg hnl] at e
      exact ⟨q, e⟩
end

