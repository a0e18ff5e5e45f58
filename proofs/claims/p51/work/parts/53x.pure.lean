/-! ===== the class alone: questions ===== -/
theorem p10 : ¬ (1 : Int32) = 0 := by decide
section
variable {B : Nat} {c : Nat → Nat → Int32} {l : Int64} {s : Nat → Nat}
theorem pn_ix0 {x : Int32} {n : Nat} (hn : n < 2147483648) (h : ¬ ∃ j, j < n ∧ x = nI j) : x < 0 ∨ ¬ x < 0 ∧ ¬ x < nI n ∧ nI n ≤ x := by
  by_cases q : x < 0
  · exact Or.inl q
  · obtain ⟨j, hj, rfl⟩ := pn_nneg q
    refine Or.inr ⟨q, ?_, ?_⟩
    · rw [pn_lt hj hn]; exact fun e => h ⟨j, e, rfl⟩
    · rw [pn_le hn hj]
      exact Nat.le_of_not_lt fun e => h ⟨j, e, rfl⟩
theorem pc_event (hR : pOk B c l s) (M : tvM) (x1 : Int32) : (∃ j z, j < s 11 ∧ z < 12 ∧ x1 = nI j ∧ f_X4_has (puC M 1 c l) 1 x1 = 1 ∧ f_X4_slotOf (puC M 1 c l) 1 x1 = nI z ∧ c 17 z = nI (s (166 + 3 * j)) ∧ c 18 z = nI (s (166 + 3 * j + 1)) ∧ c 19 z = nI (s (166 + 3 * j + 2))) ∨ ((¬ ∃ j, j < s 11 ∧ x1 = nI j) ∧ f_X4_has (puC M 1 c l) 1 x1 = 0) := by
  obtain ⟨⟨hb, hs, hh, hx, he, hsum⟩, ⟨hc, hch, hcx, hcl⟩⟩ := id hR
  have hs' := hs
  obtain ⟨s0, s1, s2, s3, s45, s67, s8, s9, s10, s11, sB⟩ := hs
  have hc' := hc
  obtain ⟨c04, c05, c06, c07, cl, c10, c11, c20, c60⟩ := hc
  obtain ⟨st, q1, q2, q3, q4⟩ := hcl
  by_cases h2 : ∃ j, j < s 11 ∧ x1 = nI j
  · obtain ⟨j, hj, rfl⟩ := h2
    obtain ⟨w1, w2, w3⟩ := q4 j hj
    refine Or.inl ⟨j, (st + j) % 12, hj, Nat.mod_lt _ (by omega), rfl, ?_, pc_slot M 1 l q2 q1 (by omega), w1, w2, w3⟩
    unfold f_X4_has
    rw [if_neg (pn_neg (by omega)), puC_g16, q3, if_neg (by rw [pn_le (by omega) (by omega)]; omega)]
  · refine Or.inr ⟨h2, ?_⟩
    unfold f_X4_has
    rw [puC_g16, q3]
    rcases pn_ix0 (hb _) h2 with q | ⟨q, _, q2⟩
    · rw [if_pos q]
    · rw [if_neg q, if_pos q2]
end
def pLw (p q t : Nat) : Nat := t / p * q + min (t % p) q
theorem pLw_s {p q t : Nat} (h : 0 < p) (hq : q ≤ p) : pLw p q (t + 1) = pLw p q t + (if t % p < q then 1 else 0) := by
  unfold pLw
  have e := Nat.div_add_mod t p
  have l := Nat.mod_lt t h
  generalize t / p = a at e
  generalize t % p = r at e l
  subst e
  by_cases h1 : r + 1 < p
  · rw [Nat.add_assoc, Nat.mul_add_div h, Nat.mul_add_mod, Nat.div_eq_of_lt h1, Nat.mod_eq_of_lt h1, Nat.add_zero]
    by_cases h2 : r < q
    · rw [if_pos h2]; omega
    · rw [if_neg h2]; omega
  · have e2 : p * a + r + 1 = p * (a + 1) + 0 := by rw [Nat.mul_add]; omega
    rw [e2, Nat.mul_add_div h, Nat.mul_add_mod, Nat.zero_div, Nat.zero_mod, Nat.add_zero, Nat.add_mul]
    by_cases h2 : r < q
    · rw [if_pos h2]; omega
    · rw [if_neg h2]; omega
theorem pLw_le {p q t : Nat} (h : 0 < p) (hq : q ≤ p) : pLw p q t ≤ t := by
  induction t with
  | zero => unfold pLw; rw [Nat.zero_div, Nat.zero_mod, Nat.zero_mul]; omega
  | succ t ih =>
    rw [pLw_s h hq]
    split <;> omega
def pLc (p q T : Nat) (i : Nat) : Bool := decide ((T + i) % p < q)
theorem tvCt_s (f : Nat → Bool) (n : Nat) : tvCt f (n + 1) = tvCt f n + (if f n = true then 1 else 0) := rfl
theorem tvCt_le (f : Nat → Bool) (n : Nat) : tvCt f n ≤ n := by
  induction n with
  | zero => exact Nat.le_refl _
  | succ n ih => rw [tvCt_s]; split <;> omega
theorem tvCt_c {f g : Nat → Bool} {n : Nat} (h : ∀ i, i < n → f i = g i) : tvCt f n = tvCt g n := by
  induction n with
  | zero => rfl
  | succ n ih => rw [tvCt_s, tvCt_s, ih fun i hi => h i (by omega), h n (by omega)]
theorem pLw_ct {p q T : Nat} (h : 0 < p) (hq : q ≤ p) (n : Nat) : pLw p q (T + n) = pLw p q T + tvCt (pLc p q T) n := by
  induction n with
  | zero => rfl
  | succ n ih =>
    rw [← Nat.add_assoc, pLw_s h hq, ih, tvCt_s]
    unfold pLc
    by_cases q2 : (T + n) % p < q
    · simp [q2, Nat.add_assoc]
    · simp [q2]
theorem pc_lowB (M : tvM) (b : Nat) {c : Nat → Nat → Int32} (l : Int64) {t p q : Nat} (h1 : c 1 0 = nI p) (h2 : c 1 1 = nI q) (ht : t < 2147483648) (hp : 0 < p) (hp2 : p < 2147483648) (hq : q < 2147483648) : f_X7_lowBefore (puC M b c l) b (nI t) = nI (pLw p q t) := by
  unfold f_X7_lowBefore
  rw [puC_g1, puC_g1, h1, h2, if_pos (show (0 : Int32) < nI p from by rw [pl_0, pn_lt (by omega) hp2]; exact hp), pn_rem ht hp hp2, pn_div ht hp hp2, pn_mul]
  have e : f_J9_min_7cf53 (puC M b c l) (nI (t % p)) (nI q) = nI (min (t % p) q) := by
    have l := Nat.mod_lt t hp
    unfold f_J9_min_7cf53
    by_cases q2 : q < t % p
    · rw [if_pos (by rw [pn_lt hq (by omega)]; exact q2), Nat.min_eq_right (by omega)]
    · rw [if_neg (by rw [pn_lt hq (by omega)]; exact q2), Nat.min_eq_left (by omega)]
  rw [e, nI_add]
  rfl
section
variable {B : Nat} {c : Nat → Nat → Int32} {l : Int64} {s : Nat → Nat}
theorem pc_lowF (hR : pOk B c l s) (M : tvM) {n : Nat} (hn : n ≤ 1000) : f_X7_lowByFormula (puC M 1 c l) 1 (tgi (puC M 1 c l) 1 4) (nI n) = nI (tvCt (pLc (s 1) (s 2) (s 0)) n) := by
  obtain ⟨⟨hb, hs, hh, hx, he, hsum⟩, ⟨hc, hch, hcx, hcl⟩⟩ := id hR
  have hs' := hs
  obtain ⟨s0, s1, s2, s3, s45, s67, s8, s9, s10, s11, sB⟩ := hs
  have hc' := hc
  obtain ⟨c04, c05, c06, c07, cl, c10, c11, c20, c60⟩ := hc
  unfold f_X7_lowByFormula
  rw [puC_g0, c04, nI_add, pc_lowB M 1 l c10 c11 (by omega) (by omega) (by omega) (by omega), pc_lowB M 1 l c10 c11 (by omega) (by omega) (by omega) (by omega), pLw_ct (by omega) (by omega), pn_sub (by omega), Nat.add_sub_cancel_left]
theorem pc_lowC (hR : pOk B c l s) (M : tvM) {n : Nat} (hn : n ≤ 1000) : f_X7_lowByCounting (puC M 1 c l) 1 (tgi (puC M 1 c l) 1 4) (nI n) = nI (tvCt (pLc (s 1) (s 2) (s 0)) n) := by
  obtain ⟨⟨hb, hs, hh, hx, he, hsum⟩, ⟨hc, hch, hcx, hcl⟩⟩ := id hR
  have hs' := hs
  obtain ⟨s0, s1, s2, s3, s45, s67, s8, s9, s10, s11, sB⟩ := hs
  have hc' := hc
  obtain ⟨c04, c05, c06, c07, cl, c10, c11, c20, c60⟩ := hc
  unfold f_X7_lowByCounting
  rw [pn_c (by omega)]
  congr 1
  refine tvCt_c fun i hi => ?_
  rw [puC_g0, c04, nI_add, pc_lowAt M 1 l c10 c11 (by omega) (by omega) (by omega) (by omega)]
  unfold pLc
  by_cases q : (s 0 + i) % s 1 < s 2
  · rw [if_pos q]; simp [q]
  · rw [if_neg q]; simp [q]
theorem pn_0k {x : Int32} (h : ¬ (x < 0 ∨ 1000 < x)) : ∃ n : Nat, n ≤ 1000 ∧ x = nI n := by
  obtain ⟨n, hn, rfl⟩ := pn_nneg (x := x) (fun q => h (Or.inl q))
  rw [pl_0, pl_1000, pn_lt hn (by omega), pn_lt (by omega) hn] at h
  exact ⟨n, by omega, rfl⟩
theorem pc_refLow (M : tvM) {n : Nat} (hn : n ≤ 1000) : f_X8_refusalOfLowMinutes M (nI n) = 0 := by
  unfold f_X8_refusalOfLowMinutes
  rw [if_neg (pn_neg (by omega)), pl_1000, if_pos (by rw [pn_le (by omega) (by omega)]; exact hn)]
theorem pc_refLow0 (M : tvM) {x : Int32} (h : x < 0 ∨ 1000 < x) : f_X8_refusalOfLowMinutes M x = 2 := by
  unfold f_X8_refusalOfLowMinutes
  by_cases q : x < 0
  · rw [if_pos q]
  · rw [if_neg q, if_neg]
    intro r
    have := h.resolve_left q
    rw [Int32.le_iff_toInt_le] at r
    rw [Int32.lt_iff_toInt_lt] at this
    omega
def pBo (s : Nat → Nat) (x : Int32) (i : Nat) : Bool := decide (nI (s (36 + 13 * i)) = x) || decide (nI (s (36 + 13 * i + 1)) = x)
theorem psm_le {f : Nat → Nat} {n m : Nat} (h : ∀ i, i < n → f i ≤ m) : psm f n ≤ n * m := by
  induction n with
  | zero => exact Nat.zero_le _
  | succ n ih =>
    have h1 := ih fun i hi => h i (by omega)
    have h2 := h n (by omega)
    show psm f n + f n ≤ _
    rw [Nat.add_mul]
    omega
theorem pWo_le (hR : pOk B c l s) {i : Nat} (hi : i < 10) : pWo s i ≤ 495 := by
  have hx := hR.1.2.2.2.1 i hi
  have := psm_le (f := fun j => s (36 + 13 * i + (8 + j))) (n := s (36 + 13 * i + 7)) (m := 99) (fun j hj => hx.2.2.2.2.2.1 j (by have := hx.2.2.2.2.1; omega))
  have := hx.2.2.2.2.1
  unfold pWo
  omega
theorem tvSm_n {f : Nat → Int32} {g : Nat → Nat} {n : Nat} (h : ∀ i, i < n → f i = nI (g i)) : tvSm f n = nI (psm g n) := by
  induction n with
  | zero => rfl
  | succ n ih =>
    show tvSm f n + f n = _
    rw [ih fun i hi => h i (by omega), h n (by omega), nI_add]
    rfl
theorem tvSl_n {f : Nat → Int64} {g : Nat → Nat} {n : Nat} (h : ∀ i, i < n → f i = lN (g i)) : tvSl f n = lN (psm g n) := by
  induction n with
  | zero => rfl
  | succ n ih =>
    show tvSl f n + f n = _
    rw [ih fun i hi => h i (by omega), h n (by omega), lN_add]
    rfl
theorem pc_sumIn (hR : pOk B c l s) (M : tvM) (b : Nat) {i : Nat} (hi : i < s 10) : f_X0_sumIn (puC M b c l) b (nI i) = nI (pWo s i) := by
  obtain ⟨⟨hb, hs, hh, hx, he, hsum⟩, ⟨hc, hch, hcx, hcl⟩⟩ := id hR
  have hs' := hs
  obtain ⟨s0, s1, s2, s3, s45, s67, s8, s9, s10, s11, sB⟩ := hs
  have hc' := hc
  obtain ⟨c04, c05, c06, c07, cl, c10, c11, c20, c60⟩ := hc
  obtain ⟨x7, x8, x9, xst, xf, xs, xr, xp, xv⟩ := hcx i hi
  have h5 := (hx i (by omega)).2.2.2.2.1
  unfold f_X0_sumIn
  rw [pc_pearls M b l c60 s10 hi, xp, pn_c (hb _)]
  exact tvSm_n fun j hj => by rw [pc_value M b l c60 s10 hi (by omega), xv j hj]
theorem pc_sumAll (hR : pOk B c l s) (M : tvM) (b : Nat) : f_X0_sumOfAll (puC M b c l) b = lN (pSu s) := by
  obtain ⟨⟨hb, hs, hh, hx, he, hsum⟩, ⟨hc, hch, hcx, hcl⟩⟩ := id hR
  have hs' := hs
  obtain ⟨s0, s1, s2, s3, s45, s67, s8, s9, s10, s11, sB⟩ := hs
  have hc' := hc
  obtain ⟨c04, c05, c06, c07, cl, c10, c11, c20, c60⟩ := hc
  unfold f_X0_sumOfAll
  rw [puC_g6, c60, pn_c (by omega)]
  exact tvSl_n fun i hi => by rw [pc_sumIn hR M b hi, pn_l (by have := pWo_le hR (i := i) (by omega); omega)]
end
def pA (w : Nat → Nat) (i j : Nat) : Prop := w i < w j ∨ (w j = w i ∧ j < i)
def pAb (w : Nat → Nat) (i j : Nat) : Bool := decide (w i < w j) || (decide (w j = w i) && decide (j < i))
theorem pAb_iff (w : Nat → Nat) (i j : Nat) : pAb w i j = true ↔ pA w i j := by
  unfold pAb pA
  simp
def pRk (w : Nat → Nat) (n i : Nat) : Nat := tvCt (pAb w i) n
theorem pA_max (w : Nat → Nat) (P : Nat → Prop) (n : Nat) (h : ∃ i, i < n ∧ P i) : ∃ m, m < n ∧ P m ∧ ∀ j, j < n → P j → ¬ pA w m j := by
  induction n with
  | zero =>
    obtain ⟨i, hi, _⟩ := h
    omega
  | succ n ih =>
    by_cases hp : P n
    · by_cases h2 : ∃ i, i < n ∧ P i
      · obtain ⟨m, hm, pm, hj⟩ := ih h2
        by_cases h3 : pA w m n
        · refine ⟨n, by omega, hp, fun j hjn pj hA => ?_⟩
          by_cases e : j = n
          · subst e
            unfold pA at hA
            omega
          · apply hj j (by omega) pj
            unfold pA at hA h3 ⊢
            omega
        · refine ⟨m, by omega, pm, fun j hjn pj => ?_⟩
          by_cases e : j = n
          · subst e
            exact h3
          · exact hj j (by omega) pj
      · refine ⟨n, by omega, hp, fun j hjn pj hA => ?_⟩
        by_cases e : j = n
        · subst e
          unfold pA at hA
          omega
        · exact h2 ⟨j, by omega, pj⟩
    · obtain ⟨i, hi, pi⟩ := h
      have : i ≠ n := fun e => hp (e ▸ pi)
      obtain ⟨m, hm, pm, hj⟩ := ih ⟨i, by omega, pi⟩
      refine ⟨m, by omega, pm, fun j hjn pj => ?_⟩
      have : j ≠ n := fun e => hp (e ▸ pj)
      exact hj j (by omega) pj
theorem tvCt_0 {f : Nat → Bool} {n : Nat} (h : ∀ j, j < n → f j = false) : tvCt f n = 0 := by
  induction n with
  | zero => rfl
  | succ n ih =>
    rw [tvCt_s, ih fun j hj => h j (by omega), h n (by omega)]
    rfl
theorem tvCt_but {f : Nat → Bool} {n i : Nat} (h : ∀ j, j < n → j ≠ i → f j = true) : n ≤ tvCt f n + 1 ∧ (n ≤ i → n ≤ tvCt f n) := by
  induction n with
  | zero => exact ⟨by omega, by omega⟩
  | succ n ih =>
    obtain ⟨h1, h2⟩ := ih fun j hj => h j (by omega)
    rw [tvCt_s]
    by_cases e : n = i
    · have := h2 (by omega)
      exact ⟨by omega, by omega⟩
    · rw [if_pos (h n (by omega) e)]
      exact ⟨by omega, fun q => by have := h2 (by omega); omega⟩
theorem tvCt_or {f : Nat → Bool} {n i : Nat} (h : f i = false) : tvCt (fun j => f j || decide (j = i)) n = tvCt f n + (if i < n then 1 else 0) := by
  induction n with
  | zero => rfl
  | succ n ih =>
    rw [tvCt_s, tvCt_s, ih]
    by_cases e : n = i
    · subst e
      rw [h]
      simp
    · by_cases e2 : i < n
      · have e3 : i < n + 1 := by omega
        cases f n <;> simp [e, e2, e3] <;> omega
      · have e3 : ¬ i < n + 1 := by omega
        cases f n <;> simp [e, e2, e3]
theorem pRk_lt (w : Nat → Nat) {n i : Nat} (h : i < n) : pRk w n i < n := by
  have h0 : pAb w i i = false := by
    cases q : pAb w i i with
    | false => rfl
    | true =>
      have := (pAb_iff w i i).1 q
      unfold pA at this
      omega
  have := tvCt_or (f := pAb w i) (n := n) h0
  have l := tvCt_le (fun j => pAb w i j || decide (j = i)) n
  rw [if_pos h] at this
  unfold pRk
  omega
theorem pRk_ex (w : Nat → Nat) (n : Nat) : ∀ k, k < n → ∃ i, i < n ∧ pRk w n i = k := by
  intro k
  induction k with
  | zero =>
    intro hk
    obtain ⟨m, hm, _, hj⟩ := pA_max w (fun _ => True) n ⟨0, hk, trivial⟩
    refine ⟨m, hm, tvCt_0 fun j hjn => ?_⟩
    cases q : pAb w m j with
    | false => rfl
    | true => exact absurd ((pAb_iff w m j).1 q) (hj j hjn trivial)
  | succ k ih =>
    intro hk
    obtain ⟨i, hi, hr⟩ := ih (by omega)
    have hne : ∃ j, j < n ∧ (j ≠ i ∧ ¬ pA w i j) := by
      apply Classical.byContradiction
      intro hno
      have := tvCt_but (f := pAb w i) (n := n) (i := i) fun j hj e => (pAb_iff w i j).2 (Classical.byContradiction fun q => hno ⟨j, hj, e, q⟩)
      unfold pRk at hr
      omega
    obtain ⟨m, hm, ⟨m1, m2⟩, hj⟩ := pA_max w (fun j => j ≠ i ∧ ¬ pA w i j) n hne
    have h0 : pAb w i i = false := by
      cases q : pAb w i i with
      | false => rfl
      | true =>
        have := (pAb_iff w i i).1 q
        unfold pA at this
        omega
    have im : pA w m i := by
      unfold pA at m2 ⊢
      omega
    have e : ∀ j, j < n → pAb w m j = (pAb w i j || decide (j = i)) := fun j hjn => by
      have a1 := pAb_iff w m j
      have a2 := pAb_iff w i j
      by_cases q : j = i
      · subst q
        rw [a1.2 im]
        simp
      · by_cases q2 : pA w i j
        · rw [a2.2 q2, a1.2 (by unfold pA at im q2 ⊢; omega)]
          rfl
        · have n1 : ¬ pA w m j := hj j hjn ⟨q, q2⟩
          have f1 : pAb w m j = false := by
            cases z : pAb w m j with
            | false => rfl
            | true => exact absurd (a1.1 z) n1
          have f2 : pAb w i j = false := by
            cases z : pAb w i j with
            | false => rfl
            | true => exact absurd (a2.1 z) q2
          rw [f1, f2]
          simp [q]
    refine ⟨m, hm, ?_⟩
    have := tvCt_or (f := pAb w i) (n := n) h0
    rw [if_pos hi] at this
    unfold pRk at hr ⊢
    rw [tvCt_c e, this, hr]
section
variable {B : Nat} {c : Nat → Nat → Int32} {l : Int64} {s : Nat → Nat}
theorem pc_rank (hR : pOk B c l s) (M : tvM) (b : Nat) {i : Nat} (hi : i < s 10) : f_X0_rankOf (puC M b c l) b (nI i) = nI (pRk (pWo s) (s 10) i) := by
  obtain ⟨⟨hb, hs, hh, hx, he, hsum⟩, ⟨hc, hch, hcx, hcl⟩⟩ := id hR
  have hs' := hs
  obtain ⟨s0, s1, s2, s3, s45, s67, s8, s9, s10, s11, sB⟩ := hs
  have hc' := hc
  obtain ⟨c04, c05, c06, c07, cl, c10, c11, c20, c60⟩ := hc
  unfold f_X0_rankOf
  rw [puC_g6, c60, pn_c (by omega)]
  congr 1
  refine tvCt_c fun j hj => ?_
  have w1 := pWo_le hR (i := i) (by omega)
  have w2 := pWo_le hR (i := j) (by omega)
  unfold tvAhead pAb
  rw [pc_sumIn hR M b hi, pc_sumIn hR M b hj]
  have e1 : decide (nI (pWo s i) < nI (pWo s j)) = decide (pWo s i < pWo s j) := by
    rw [decide_eq_decide]; exact pn_lt (by omega) (by omega)
  have e2 : decide (nI (pWo s j) = nI (pWo s i)) = decide (pWo s j = pWo s i) := by
    rw [decide_eq_decide]; exact pn_eq (by omega) (by omega)
  have e3 : (!decide (nI i ≤ nI j)) = decide (j < i) := by
    rw [← decide_not, decide_eq_decide, pn_le (by omega) (by omega)]; omega
  rw [e1, e2, e3]
theorem pc_atRank (hR : pOk B c l s) (M : tvM) (x : Int32) : f_X0_atRank (puC M 1 c l) 1 x = if fa_first (fun i => decide (nI (pRk (pWo s) (s 10) i) = x)) (s 10) < s 10 then nI (fa_first (fun i => decide (nI (pRk (pWo s) (s 10) i) = x)) (s 10)) else (-1) := by
  obtain ⟨⟨hb, hs, hh, hx, he, hsum⟩, ⟨hc, hch, hcx, hcl⟩⟩ := id hR
  have hs' := hs
  obtain ⟨s0, s1, s2, s3, s45, s67, s8, s9, s10, s11, sB⟩ := hs
  have hc' := hc
  obtain ⟨c04, c05, c06, c07, cl, c10, c11, c20, c60⟩ := hc
  have e : ∀ n, n ≤ s 10 → fa_first (tvRk (puC M 1 c l) 1 x) n = fa_first (fun i => decide (nI (pRk (pWo s) (s 10) i) = x)) n := by
    intro n
    induction n with
    | zero => intro _; rfl
    | succ n ih =>
      intro hn
      unfold fa_first
      rw [ih (by omega), show tvRk (puC M 1 c l) 1 x n = decide (nI (pRk (pWo s) (s 10) n) = x) from by unfold tvRk; rw [pc_rank hR M 1 (by omega)]]
  unfold f_X0_atRank
  rw [puC_g6, c60, pn_c (by omega), e _ (Nat.le_refl _)]
end
theorem pLeast (P : Nat → Prop) : ∀ N, (∃ k, k ≤ N ∧ P k) → ∃ m, m ≤ N ∧ P m ∧ ∀ j, j < m → ¬ P j := by
  intro N
  induction N with
  | zero =>
    rintro ⟨k, hk, hp⟩
    exact ⟨k, hk, hp, fun j hj => by omega⟩
  | succ N ih =>
    rintro ⟨k, hk, hp⟩
    by_cases h : ∃ k, k ≤ N ∧ P k
    · obtain ⟨m, h1, h2, h3⟩ := ih h
      exact ⟨m, by omega, h2, h3⟩
    · have : k = N + 1 := by
        apply Classical.byContradiction
        intro q
        exact h ⟨k, by omega, hp⟩
      subst this
      exact ⟨_, Nat.le_refl _, hp, fun j hj hq => h ⟨j, by omega, hq⟩⟩
def pCt (p q T k : Nat) : Nat := tvCt (pLc p q T) k
theorem pCt_s (p q T k : Nat) : pCt p q T (k + 1) = pCt p q T k + (if (T + k) % p < q then 1 else 0) := by
  unfold pCt
  rw [tvCt_s]
  unfold pLc
  by_cases h : (T + k) % p < q
  · simp [h]
  · simp [h]
theorem pCt_mono (p q T : Nat) {j k : Nat} (h : j ≤ k) : pCt p q T j ≤ pCt p q T k := by
  induction k with
  | zero => rw [show j = 0 by omega]; exact Nat.le_refl _
  | succ k ih =>
    by_cases e : j = k + 1
    · rw [e]; exact Nat.le_refl _
    · have := ih (by omega)
      rw [pCt_s]
      omega
theorem pCt_p {p q T m : Nat} (h : 0 < p) (hq : q ≤ p) : pCt p q T (p * m) = m * q := by
  have e := pLw_ct (T := T) h hq (p * m)
  unfold pLw at e
  rw [Nat.add_mul_div_left T m h, Nat.add_mul_mod_self_left, Nat.add_mul] at e
  unfold pCt
  omega
theorem pCt_80 {p q T : Nat} (h : 0 < p) (h2 : p ≤ 480) (hq : q ≤ p) (h3 : 10 ≤ q) : 80 ≤ pCt p q T 3840 := by
  have e := pCt_p (T := T) (m := 8) h hq
  have := pCt_mono p q T (j := p * 8) (k := 3840) (by omega)
  omega
def pIsK (p q T r K : Nat) : Prop := 1 ≤ K ∧ K ≤ 3839 ∧ (r ≤ pCt p q T K ∧ (T + K) % p < q) ∧ ∀ k, 1 ≤ k → k < K → ¬ (r ≤ pCt p q T k ∧ (T + k) % p < q)
theorem pK_no {p q T r : Nat} {K : Nat} (h : ∀ k, 1 ≤ k → k < K → ¬ (r ≤ pCt p q T k ∧ (T + k) % p < q)) : ∀ k, k < K → pCt p q T (k + 1) ≤ max r (pCt p q T 1) := by
  intro k
  induction k with
  | zero => intro _; exact Nat.le_max_right _ _
  | succ k ih =>
    intro hk
    have h1 := ih (by omega)
    have h2 := h (k + 1) (by omega) hk
    rw [pCt_s p q T (k + 1)]
    by_cases h3 : (T + (k + 1)) % p < q
    · rw [if_pos h3]
      omega
    · rw [if_neg h3]
      omega
theorem pK_ex {p q T r : Nat} (h : 0 < p) (h2 : p ≤ 480) (hq : q ≤ p) (h3 : 10 ≤ q) (hr : r ≤ 60) : ∃ K, pIsK p q T r K := by
  have hex : ∃ k, k ≤ 3839 ∧ (1 ≤ k ∧ r ≤ pCt p q T k ∧ (T + k) % p < q) := by
    apply Classical.byContradiction
    intro hno
    have := pK_no (p := p) (q := q) (T := T) (r := r) (K := 3840) (fun k h1 h2 h3 => hno ⟨k, by omega, h1, h3⟩) 3839 (by omega)
    rw [show 3839 + 1 = 3840 from rfl] at this
    have h8 := pCt_80 (T := T) h h2 hq h3
    have h1 : pCt p q T 1 ≤ 1 := by
      rw [show (1 : Nat) = 0 + 1 from rfl, pCt_s]
      show 0 + _ ≤ _
      split <;> omega
    omega
  obtain ⟨K, k1, ⟨k2, k3, k4⟩, k5⟩ := pLeast _ _ hex
  exact ⟨K, k2, k1, ⟨k3, k4⟩, fun k q1 q2 q3 => k5 k q2 ⟨q1, q3⟩⟩
def pNd (p q T r : Nat) : Nat := if r = 0 ∧ T % p < q then 2 else r + 1
theorem pK_nd {p q T r K : Nat} (h : pIsK p q T r K) {k : Nat} (hk : 1 ≤ k) : pCt p q T (k + 1) < pNd p q T r ↔ k < K := by
  obtain ⟨h1, h2, ⟨h3, h4⟩, h5⟩ := h
  have e1 : pCt p q T 1 = if T % p < q then 1 else 0 := by
    rw [show (1 : Nat) = 0 + 1 from rfl, pCt_s]
    show 0 + _ = _
    rw [Nat.add_zero, Nat.zero_add]
  unfold pNd
  constructor
  · intro hlt
    apply Classical.byContradiction
    intro hn
    have m := pCt_mono p q T (j := K + 1) (k := k + 1) (by omega)
    have m2 := pCt_mono p q T (j := 1) (k := K) h1
    rw [pCt_s, if_pos h4] at m
    by_cases q1 : T % p < q
    · rw [if_pos q1] at e1
      by_cases q2 : r = 0
      · rw [if_pos ⟨q2, q1⟩] at hlt
        omega
      · rw [if_neg (fun e => q2 e.1)] at hlt
        omega
    · rw [if_neg (fun e => q1 e.2)] at hlt
      omega
  · intro hlt
    have := pK_no h5 k hlt
    rw [e1] at this
    by_cases q1 : T % p < q
    · rw [if_pos q1] at this
      by_cases q2 : r = 0
      · rw [if_pos ⟨q2, q1⟩]
        omega
      · rw [if_neg (fun e => q2 e.1)]
        omega
    · rw [if_neg q1] at this
      rw [if_neg (fun e => q1 e.2)]
      omega
theorem tvSo_K (f : Nat → Bool) (K : Nat) : ∀ n a, a < K → K ≤ a + 2 ^ n → (∀ j, 1 ≤ j → j < K → f j = true) → (∀ j, K ≤ j → j < a + 2 ^ n → f j = false) → tvSo f n a + 1 = K := by
  intro n
  induction n with
  | zero =>
    intro a h2 h3 _ _
    show a + 1 = K
    omega
  | succ n ih =>
    intro a h2 h3 h4 h5
    have e0 : 2 ^ (n + 1) = 2 ^ n + 2 ^ n := by rw [Nat.pow_succ]; omega
    have hp0 : 0 < 2 ^ n := Nat.pow_pos (by omega)
    rw [tvSo]
    by_cases q2 : a + 2 ^ n < K
    · rw [if_pos (h4 _ (by omega) q2)]
      exact ih _ (by omega) (by omega) h4 (fun j j1 j2 => h5 j j1 (by omega))
    · rw [if_neg (by rw [h5 _ (by omega) (by omega)]; decide)]
      exact ih _ (by omega) (by omega) h4 (fun j j1 j2 => h5 j j1 (by omega))
section
variable {B : Nat} {c : Nat → Nat → Int32} {l : Int64} {s : Nat → Nat}
theorem pc_lowF' (hR : pOk B c l s) (M : tvM) {n : Nat} (hn : n ≤ 4200) : f_X7_lowByFormula (puC M 1 c l) 1 (tgi (puC M 1 c l) 1 4) (nI n) = nI (pCt (s 1) (s 2) (s 0) n) := by
  obtain ⟨⟨hb, hs, hh, hx, he, hsum⟩, ⟨hc, hch, hcx, hcl⟩⟩ := id hR
  have hs' := hs
  obtain ⟨s0, s1, s2, s3, s45, s67, s8, s9, s10, s11, sB⟩ := hs
  have hc' := hc
  obtain ⟨c04, c05, c06, c07, cl, c10, c11, c20, c60⟩ := hc
  unfold f_X7_lowByFormula
  rw [puC_g0, c04, nI_add, pc_lowB M 1 l c10 c11 (by omega) (by omega) (by omega) (by omega), pc_lowB M 1 l c10 c11 (by omega) (by omega) (by omega) (by omega), pLw_ct (by omega) (by omega), pn_sub (by omega), Nat.add_sub_cancel_left]
  rfl
def pOpK (s : Nat → Nat) (i K : Nat) : Prop := pIsK (s 1) (s 2) (s 0) (s (36 + 13 * i + 6)) K
theorem pOpK_ex (hR : pOk B c l s) {i : Nat} (hi : i < 10) : ∃ K, pOpK s i K := by
  obtain ⟨⟨hb, hs, hh, hx, he, hsum⟩, ⟨hc, hch, hcx, hcl⟩⟩ := id hR
  have hs' := hs
  obtain ⟨s0, s1, s2, s3, s45, s67, s8, s9, s10, s11, sB⟩ := hs
  have hc' := hc
  obtain ⟨c04, c05, c06, c07, cl, c10, c11, c20, c60⟩ := hc
  exact pK_ex (by omega) (by omega) (by omega) (by omega) (hx i hi).2.2.2.1
theorem pc_search (hR : pOk B c l s) (M : tvM) {i K : Nat} (hi : i < s 10) (h2 : s (36 + 13 * i + 3) = 2) (hK : pOpK s i K) : f_X6_searchOpening (puC M 1 c l) 1 (nI i) = nI K := by
  have hR0 := hR
  obtain ⟨⟨hb, hs, hh, hx, he, hsum⟩, ⟨hc, hch, hcx, hcl⟩⟩ := id hR
  have hs' := hs
  obtain ⟨s0, s1, s2, s3, s45, s67, s8, s9, s10, s11, sB⟩ := hs
  have hc' := hc
  obtain ⟨c04, c05, c06, c07, cl, c10, c11, c20, c60⟩ := hc
  have hr := (hx i (by omega)).2.2.2.1
  have er : f_X0_remainingOf (puC M 1 c l) 1 (nI i) = nI (s (36 + 13 * i + 6)) := by
    rw [pc_rem M 1 l c60 s10 hi, (hcx i hi).2.2.2.2.2.2.1 h2]
  have el : tvLt (puC M 1 c l) 1 (nI i) = nI (pNd (s 1) (s 2) (s 0) (s (36 + 13 * i + 6))) := by
    unfold tvLt
    rw [er, pc_isLow M 1 l c04 c10 c11 (by omega) (by omega) (by omega) (by omega)]
    unfold pNd
    by_cases q1 : s (36 + 13 * i + 6) = 0
    · rw [if_pos (by rw [q1]; rfl)]
      by_cases q2 : s 0 % s 1 < s 2
      · rw [if_pos q2, if_neg p10, if_pos ⟨q1, q2⟩]
        rfl
      · rw [if_neg q2, if_pos rfl, if_neg (fun e => q2 e.2), nI_1]
    · rw [if_neg (by rw [pl_0, pn_eq (by omega) (by omega)]; exact q1), if_neg (fun e => q1 e.1), nI_1]
  have hnd : pNd (s 1) (s 2) (s 0) (s (36 + 13 * i + 6)) ≤ 61 := by
    unfold pNd
    split <;> omega
  have ef : ∀ k, 1 ≤ k → k < 4096 → (tvSp (puC M 1 c l) 1 (nI i) k = true ↔ k < K) := fun k k1 k2 => by
    unfold tvSp
    have hc := tvCt_le (pLc (s 1) (s 2) (s 0)) (k + 1)
    rw [pc_lowF' hR0 M (by omega), el, decide_eq_true_iff, pn_lt (by unfold pCt; omega) (by omega)]
    exact pK_nd hK k1
  unfold f_X6_searchOpening
  rw [tvSo_K _ K 12 0 (by have := hK.1; omega) (by have := hK.2.1; omega) (fun j j1 j2 => (ef j j1 (by have := hK.2.1; omega)).2 j2) (fun j j1 j2 => by
    have := ef j (by have := hK.1; omega) (by omega)
    cases q : tvSp (puC M 1 c l) 1 (nI i) j with
    | false => rfl
    | true => exact absurd (this.1 q) (by omega))]
end
theorem pOc_0 (s : Nat → Nat) {i j : Nat} (hj : j < i) (hd : pDue s j) : pOc s i ≠ 0 := by
  induction i with
  | zero => omega
  | succ i ih =>
    show pOc s i + _ ≠ 0
    by_cases e : j = i
    · subst e
      rw [if_pos (show s (36 + 13 * j + 3) = 2 ∧ s (36 + 13 * j + 6) = 0 from hd)]
      omega
    · have := ih (by omega)
      omega
section
variable {B : Nat} {c : Nat → Nat → Int32} {l : Int64} {s : Nat → Nat}
theorem pMinBox (hR : pOk B c l s) (hB : B + 1 ≤ 10000000) {i : Nat} (hi : i < s 10) :
    (s (36 + 13 * i + 3) = 2 → ((s 0 + 1) % s 1 < s 2 ∧ s (36 + 13 * i + 6) - (if s 0 % s 1 < s 2 then 1 else 0) = 0 → pMin s (36 + 13 * i + 3) = 3 ∧ pMin s (36 + 13 * i + 5) = s 0 + 1 ∧ pMO s ≠ 0) ∧ (¬ ((s 0 + 1) % s 1 < s 2 ∧ s (36 + 13 * i + 6) - (if s 0 % s 1 < s 2 then 1 else 0) = 0) → pMin s (36 + 13 * i + 3) = 2 ∧ pMin s (36 + 13 * i + 6) = s (36 + 13 * i + 6) - (if s 0 % s 1 < s 2 then 1 else 0))) ∧
    (s (36 + 13 * i + 3) ≠ 2 → pMin s (36 + 13 * i + 3) ≠ 2 ∧ (pMin s (36 + 13 * i + 3) = 3 → s (36 + 13 * i + 3) = 3 ∧ pMin s (36 + 13 * i + 5) = s (36 + 13 * i + 5))) := by
  obtain ⟨⟨hb, hs, hh, hx, he, hsum⟩, ⟨hc, hch, hcx, hcl⟩⟩ := id hR
  have hs' := hs
  obtain ⟨s0, s1, s2, s3, s45, s67, s8, s9, s10, s11, sB⟩ := hs
  have hc' := hc
  obtain ⟨c04, c05, c06, c07, cl, c10, c11, c20, c60⟩ := hc
  obtain ⟨cC, gC, rC⟩ := pMinC hR hB
  have m0 : pMC s 0 = s 0 + 1 := pMC_0 s
  have mo : ∀ k, 1 ≤ k → k ≠ 3 → (k < 36 ∨ 166 ≤ k ∨ ∀ j, k ≠ 36 + 13 * j + 6) → pMC s k = s k := fun k h1 h2 h3 => by rw [pMC_o s h1 h2, pMA_o s h3 s10]
  have m8 : pMC s 8 = s 8 := mo 8 (by omega) (by omega) (by omega)
  have m10 : pMC s 10 = s 10 := mo 10 (by omega) (by omega) (by omega)
  have b3 : pMC s (36 + 13 * i + 3) = s (36 + 13 * i + 3) := mo _ (by omega) (by omega) (Or.inr (Or.inr fun j => by omega))
  have b5 : pMC s (36 + 13 * i + 5) = s (36 + 13 * i + 5) := mo _ (by omega) (by omega) (Or.inr (Or.inr fun j => by omega))
  have b6 : s (36 + 13 * i + 3) = 2 → pMC s (36 + 13 * i + 6) = s (36 + 13 * i + 6) - (if s 0 % s 1 < s 2 then 1 else 0) := fun h2 => by
    rw [pMC_o s (by omega) (by omega)]
    unfold pMA
    by_cases q : s 0 % s 1 < s 2
    · rw [if_pos q, if_pos q, pDn_6 s _ _ hi, if_pos h2]
    · rw [if_neg q, if_neg q]; rfl
  have hx5 := (hx i (by omega)).2.2.1
  have hD : ∃ cD : Nat → Nat → Int32, pOk (B + 1) cD l (pMD s) ∧ pMD s 0 = s 0 + 1 ∧ pMD s 10 = s 10 ∧ ((s 0 + 1) % s 1 < s 2 ∧ pDue (pMC s) i → pMD s (36 + 13 * i + 3) = 3 ∧ pMD s (36 + 13 * i + 5) = s 0 + 1 ∧ pMO s ≠ 0) ∧ (¬ ((s 0 + 1) % s 1 < s 2 ∧ pDue (pMC s) i) → ∀ w, w < 13 → pMD s (36 + 13 * i + w) = pMC s (36 + 13 * i + w)) := by
    by_cases q : (s 0 + 1) % s 1 < s 2
    · obtain ⟨cD, g, r, f1, f2, f3, f4, f5⟩ := pOpens rC (by omega) (s 10) (by omega)
      have e1 : pMD s = pOs (pMC s) (s 10) := by unfold pMD; rw [if_pos q]
      have e2 : pMO s = pOc (pMC s) (s 10) := by unfold pMO; rw [if_pos q]
      rw [e1, e2]
      refine ⟨cD, r, by rw [f1 0 (by omega) (by omega) (by omega), m0], by rw [f1 10 (by omega) (by omega) (by omega), m10], fun hd => ?_, fun hd => (f4 i hi).2 fun h => hd ⟨q, h⟩⟩
      obtain ⟨z1, z2⟩ := (f4 i hi).1 hd.2
      exact ⟨z1, by rw [z2, m0], pOc_0 _ hi hd.2⟩
    · have e1 : pMD s = pMC s := by unfold pMD; rw [if_neg q]
      rw [e1]
      exact ⟨cC, rC, m0, m10, fun hd => absurd hd.1 q, fun _ w _ => rfl⟩
  obtain ⟨cD, rD, d0, d10, dd, dn⟩ := hD
  obtain ⟨cE, gE, rE, ek, ex, e4, e5⟩ := pShuts rD (s 10) (by omega)
  obtain ⟨z1, z2⟩ := e4 i hi
  have eM : pMin s = pSs (pMD s) (s 10) := rfl
  rw [eM]
  constructor
  · intro h2
    have b6' := b6 h2
    constructor
    · rintro ⟨q1, q2⟩
      obtain ⟨y1, y2, y3⟩ := dd ⟨q1, by rw [b3]; exact h2, by rw [b6']; exact q2⟩
      have hnov : ¬ pOv (pMD s) i := by
        unfold pOv
        rw [y1, y2, d0]
        omega
      have := z2 hnov
      exact ⟨(this 3 (by omega)).trans y1, (this 5 (by omega)).trans y2, y3⟩
    · intro hn
      have hd : ¬ ((s 0 + 1) % s 1 < s 2 ∧ pDue (pMC s) i) := fun h => hn ⟨h.1, by rw [← b6']; exact h.2.2⟩
      have y := dn hd
      have hnov : ¬ pOv (pMD s) i := by
        unfold pOv
        rw [y 3 (by omega), b3, h2]
        omega
      have := z2 hnov
      exact ⟨(this 3 (by omega)).trans ((y 3 (by omega)).trans (b3.trans h2)), (this 6 (by omega)).trans ((y 6 (by omega)).trans b6')⟩
  · intro h2
    have hd : ¬ ((s 0 + 1) % s 1 < s 2 ∧ pDue (pMC s) i) := fun h => h2 (by rw [← b3]; exact h.2.1)
    have y := dn hd
    by_cases q : pOv (pMD s) i
    · have := z1 q
      rw [this]
      exact ⟨by omega, fun e => by omega⟩
    · have := z2 q
      rw [this 3 (by omega), this 5 (by omega), y 3 (by omega), y 5 (by omega), b3, b5]
      exact ⟨h2, fun e => ⟨e, rfl⟩⟩
theorem pReh (hR : pOk B c l s) : ∀ k, B + k ≤ 10000000 → (∃ c' : Nat → Nat → Int32, pOk (B + k) c' l (pIt s k)) ∧ pIt s k 0 = s 0 + k ∧ pIt s k 1 = s 1 ∧ pIt s k 2 = s 2 ∧ pIt s k 10 = s 10 ∧ ∀ i, i < s 10 → (∀ K, s (36 + 13 * i + 3) = 2 → pOpK s i K → (k < K → pIt s k (36 + 13 * i + 3) = 2 ∧ pIt s k (36 + 13 * i + 6) = s (36 + 13 * i + 6) - pCt (s 1) (s 2) (s 0) k) ∧ (K ≤ k → pIt s k (36 + 13 * i + 3) ≠ 2 ∧ (pIt s k (36 + 13 * i + 3) = 3 → pIt s k (36 + 13 * i + 5) = s 0 + K) ∧ (k = K → pIt s k (36 + 13 * i + 3) = 3 ∧ pMO (pIt s (k - 1)) ≠ 0))) ∧ (s (36 + 13 * i + 3) ≠ 2 → pIt s k (36 + 13 * i + 3) ≠ 2 ∧ (pIt s k (36 + 13 * i + 3) = 3 → pIt s k (36 + 13 * i + 5) ≤ s 0)) := by
  intro k
  induction k with
  | zero =>
    intro _
    refine ⟨⟨c, hR⟩, rfl, rfl, rfl, rfl, fun i hi => ⟨fun K h2 hK => ⟨fun _ => ⟨h2, ?_⟩, fun hk => absurd hK.1 (by omega)⟩, fun h2 => ⟨h2, fun _ => ?_⟩⟩⟩
    · show s (36 + 13 * i + 6) = s (36 + 13 * i + 6) - 0
      omega
    · have s10 := hR.1.2.1.2.2.2.2.2.2.2.2.1
      exact (hR.1.2.2.2.1 i (by omega)).2.2.1
  | succ k ih =>
    intro hk
    obtain ⟨⟨c', r⟩, i0, i1, i2, i10, ib⟩ := ih (by omega)
    obtain ⟨c2, _, _, r2, fr, f0, _⟩ := pMinute r (by omega)
    have fr1 := fr 1 (by omega) (by omega) (by omega) (by omega) (by omega)
    have fr2 := fr 2 (by omega) (by omega) (by omega) (by omega) (by omega)
    have fr10 := fr 10 (by omega) (by omega) (by omega) (by omega) (by omega)
    have eN : pIt s (k + 1) = pMin (pIt s k) := rfl
    rw [eN]
    refine ⟨⟨c2, by rw [← Nat.add_assoc]; exact r2⟩, by rw [f0, i0]; omega, fr1.trans i1, fr2.trans i2, fr10.trans i10, fun i hi => ?_⟩
    obtain ⟨b1, b2⟩ := ib i hi
    obtain ⟨m1, m2⟩ := pMinBox r (by omega) (i := i) (by omega)
    rw [i0, i1, i2] at m1
    refine ⟨fun K h2 hK => ?_, fun h2 => ?_⟩
    · obtain ⟨K1, K2, ⟨K3, K4⟩, K5⟩ := id hK
      obtain ⟨n1, n2⟩ := b1 K h2 hK
      have ec := pCt_s (s 1) (s 2) (s 0) k
      have e6 : k < K → pIt s k (36 + 13 * i + 6) - (if (s 0 + k) % s 1 < s 2 then 1 else 0) = s (36 + 13 * i + 6) - pCt (s 1) (s 2) (s 0) (k + 1) := fun hk => by
        rw [(n1 hk).2, ec]
        omega
      constructor
      · intro hlt
        obtain ⟨p1, p2⟩ := n1 (by omega)
        have := (m1 p1).2 (by
          rw [e6 (by omega), Nat.add_assoc]
          rintro ⟨q1, q2⟩
          exact K5 (k + 1) (by omega) hlt ⟨by omega, q1⟩)
        exact ⟨this.1, by rw [this.2, e6 (by omega)]⟩
      · intro hle
        by_cases e : k + 1 = K
        · obtain ⟨p1, p2⟩ := n1 (by omega)
          have := (m1 p1).1 (by
            rw [e6 (by omega), Nat.add_assoc, e]
            exact ⟨K4, by omega⟩)
          rw [this.1, this.2.1]
          exact ⟨by omega, fun _ => by omega, fun _ => ⟨rfl, this.2.2⟩⟩
        · obtain ⟨p1, p2, _⟩ := n2 (by omega)
          obtain ⟨z1, z2⟩ := m2 p1
          refine ⟨z1, fun h => ?_, fun q => absurd q e⟩
          obtain ⟨y1, y2⟩ := z2 h
          rw [y2]
          exact p2 y1
    · obtain ⟨p1, p2⟩ := b2 h2
      obtain ⟨z1, z2⟩ := m2 p1
      refine ⟨z1, fun h => ?_⟩
      obtain ⟨y1, y2⟩ := z2 h
      rw [y2]
      exact p2 y1
theorem pReh_just (hR : pOk B c l s) {k : Nat} (hk : B + k ≤ 10000000) (hk1 : 1 ≤ k) {i : Nat} (hi : i < s 10) : (pIt s k (36 + 13 * i + 3) = 3 ∧ pIt s k (36 + 13 * i + 5) = pIt s k 0) ↔ (s (36 + 13 * i + 3) = 2 ∧ pOpK s i k) := by
  have s10 := hR.1.2.1.2.2.2.2.2.2.2.2.1
  obtain ⟨_, i0, _, _, _, ib⟩ := pReh hR k hk
  obtain ⟨b1, b2⟩ := ib i hi
  obtain ⟨K, hK⟩ := pOpK_ex hR (i := i) (by omega)
  rw [i0]
  constructor
  · rintro ⟨h3, h5⟩
    by_cases h2 : s (36 + 13 * i + 3) = 2
    · obtain ⟨n1, n2⟩ := b1 K h2 hK
      by_cases hkK : k < K
      · have := (n1 hkK).1
        omega
      · have := (n2 (by omega)).2.1 h3
        have e : K = k := by omega
        rw [e] at hK
        exact ⟨h2, hK⟩
    · have := (b2 h2).2 h3
      omega
  · rintro ⟨h2, hk2⟩
    obtain ⟨n1, n2⟩ := b1 k h2 hk2
    obtain ⟨z1, z2, z3⟩ := n2 (Nat.le_refl _)
    have := (z3 rfl).1
    exact ⟨this, z2 this⟩
theorem pIsK_u {p q T r K K' : Nat} (h : pIsK p q T r K) (h' : pIsK p q T r K') : K = K' := by
  obtain ⟨a1, a2, a3, a4⟩ := h
  obtain ⟨b1, b2, b3, b4⟩ := h'
  apply Classical.byContradiction
  intro ne
  by_cases q : K < K'
  · exact b4 K a1 q a3
  · exact a4 K' b1 (by omega) b3
theorem pReh_mo (hR : pOk B c l s) {k : Nat} (hk : B + (k + 1) ≤ 10000000) {i : Nat} (hi : i < s 10) (h2 : s (36 + 13 * i + 3) = 2) (hK : pOpK s i (k + 1)) : pMO (pIt s k) ≠ 0 := by
  obtain ⟨_, _, _, _, _, ib⟩ := pReh hR (k + 1) hk
  obtain ⟨b1, _⟩ := ib i hi
  obtain ⟨_, n2⟩ := b1 (k + 1) h2 hK
  exact ((n2 (Nat.le_refl _)).2.2 rfl).2
theorem pc_just (hR : pOk B c l s) (M : tvM) (b : Nat) {i : Nat} (hi : i < s 10) : f_X6_hasJustOpened (puC M b c l) b (nI i) = if s (36 + 13 * i + 3) = 3 ∧ s (36 + 13 * i + 5) = s 0 then 1 else 0 := by
  obtain ⟨⟨hb, hs, hh, hx, he, hsum⟩, ⟨hc, hch, hcx, hcl⟩⟩ := id hR
  have hs' := hs
  obtain ⟨s0, s1, s2, s3, s45, s67, s8, s9, s10, s11, sB⟩ := hs
  have hc' := hc
  obtain ⟨c04, c05, c06, c07, cl, c10, c11, c20, c60⟩ := hc
  obtain ⟨x7, x8, x9, xst, xf, xs, xr, _⟩ := hcx i hi
  have h3 := (hx i (by omega)).2.1
  unfold f_X6_hasJustOpened
  rw [pc_status M b l c60 s10 hi, xst, pSt_tnc]
  by_cases q : s (36 + 13 * i + 3) = 3
  · rw [if_pos ((pSt_eq _ h3).2.2.2.2 q), pc_since M b l c60 s10 hi, xs (Or.inr q), puC_g0, c04]
    by_cases q2 : s (36 + 13 * i + 5) = s 0
    · rw [if_pos (by rw [q2]), if_pos ⟨q, q2⟩]
    · rw [if_neg (by rw [pn_eq (hb _) (hb _)]; exact q2), if_neg (fun e => q2 e.2)]
  · rw [if_neg (fun e => q ((pSt_eq _ h3).2.2.2.1 e)), if_neg (fun e => q e.1)]
end
section
variable {B : Nat} {c : Nat → Nat → Int32} {l : Int64} {s : Nat → Nat}
theorem pPend (hR : pOk B c l s) (M : tvM) (x1 : Int32) : (∃ i, i < s 10 ∧ x1 = nI i ∧ s (36 + 13 * i + 3) = 2 ∧ f_X8_refusalUnless (puC M 1 c l) 112 x1 = 0) ∨ (∃ i, i < s 10 ∧ x1 = nI i ∧ s (36 + 13 * i + 3) ≠ 2 ∧ f_X8_refusalUnless (puC M 1 c l) 112 x1 = 5) ∨ ((¬ ∃ i, i < s 10 ∧ x1 = nI i) ∧ f_X8_refusalUnless (puC M 1 c l) 112 x1 = 1) := by
  obtain ⟨⟨hb, hs, hh, hx, he, hsum⟩, ⟨hc, hch, hcx, hcl⟩⟩ := id hR
  have hs' := hs
  obtain ⟨s0, s1, s2, s3, s45, s67, s8, s9, s10, s11, sB⟩ := hs
  have hc' := hc
  obtain ⟨c04, c05, c06, c07, cl, c10, c11, c20, c60⟩ := hc
  unfold f_X8_refusalUnless
  by_cases h1 : ∃ i, i < s 10 ∧ x1 = nI i
  · obtain ⟨i, hi, rfl⟩ := h1
    have h3 := (hx i (by omega)).2.1
    rw [pc_has1 M 1 l c60 s10 hi, if_neg p10, pc_status M 1 l c60 s10 hi, (hcx i hi).2.2.2.1, pSt_tnc]
    by_cases q : s (36 + 13 * i + 3) = 2
    · exact Or.inl ⟨i, hi, rfl, q, by rw [if_pos ((pSt_eq _ h3).2.2.1.2 q)]⟩
    · exact Or.inr (Or.inl ⟨i, hi, rfl, q, by rw [if_neg (fun e => q ((pSt_eq _ h3).2.2.1.1 e))]⟩)
  · exact Or.inr (Or.inr ⟨h1, by rw [pc_has0 M 1 l c60 s10 h1, if_pos rfl]⟩)
theorem pWf (hR : pOk B c l s) (hB : B + 3840 ≤ 10000000) (M : tvM) {i K : Nat} (hi : i < s 10) (h2 : s (36 + 13 * i + 3) = 2) (hK : pOpK s i K) : ∀ n k c, n + k = 3840 → pOk (B + k) c l (pIt s k) → k < K → ∃ c', tvWf 21 (nI i) n (k + 1) (puC M 21 c l) = (nI K, puC M 21 c' l) := by
  intro n
  induction n with
  | zero =>
    intro k c hk _ hlt
    have := hK.2.1
    omega
  | succ n ih =>
    intro k c hk r hlt
    obtain ⟨c2, g, _, r2, _⟩ := pMinute r (by omega)
    have eN : pIt s (k + 1) = pMin (pIt s k) := rfl
    rw [← eN] at r2
    obtain ⟨_, _, _, _, i10, _⟩ := pReh hR (k + 1) (by omega)
    have hj := pc_just r2 M 21 (i := i) (by omega)
    have hjj := pReh_just hR (k := k + 1) (by omega) (by omega) hi
    show ∃ c', (if f_X6_hasJustOpened (f_X6_minute (puC M 21 c l) 21).2 21 (nI i) = 0 then tvWf 21 (nI i) n (k + 1 + 1) (f_X6_minute (puC M 21 c l) 21).2 else (nI (k + 1), (f_X6_minute (puC M 21 c l) 21).2)) = (nI K, puC M 21 c' l)
    rw [g, hj]
    by_cases q : k + 1 = K
    · rw [if_pos (hjj.2 ⟨h2, by rw [q]; exact hK⟩), if_neg p10, q]
      exact ⟨c2, rfl⟩
    · rw [if_neg (fun e => q (pIsK_u (hjj.1 e).2 hK)), if_pos rfl]
      exact ih (k + 1) c2 (by omega) (by rw [← Nat.add_assoc] at *; exact r2) (by omega)
end
theorem pc_reh {B : Nat} {M : tvM} {s : Nat → Nat} (h : pOk B (pV M 1) (pL M 1) s) : ∃ c, f_X6_copyFrom M 21 1 = puC M 21 c (pL M 1) ∧ pOk B c (pL M 1) s := by
  obtain ⟨c, g, r⟩ := pc_copy M (b := 21) (b2 := 1) (by omega)
  exact ⟨c, g, pOk_cc h r⟩
theorem puC_lo (M : tvM) {b a : Nat} (c : Nat → Nat → Int32) (l : Int64) (h : a ≠ b) : (puC M b c l).2.1 a = M.2.1 a := tvU_ne _ _ _ h
theorem pn_m (n : Nat) : nI (n + 1) + (-1) = nI n := by
  have := pn_sub (a := n + 1) (b := 1) (by omega)
  rw [Nat.add_sub_cancel] at this
  rw [← this]
  exact (Int32.sub_eq_add_neg _ _).symm
theorem tvCt_off {f g : Nat → Bool} {n i : Nat} (hi : i < n) (hf : f i = true) (hg : g i = false) (h : ∀ j, j ≠ i → f j = g j) : tvCt f n = tvCt g n + 1 := by
  have e := tvCt_or (f := g) (n := n) hg
  rw [if_pos hi] at e
  rw [← e]
  refine tvCt_c fun j _ => ?_
  by_cases q : j = i
  · subst q
    rw [hf]
    simp
  · rw [h j q]
    simp [q]
section
variable {B : Nat} {c : Nat → Nat → Int32} {l : Int64} {s : Nat → Nat}
def pYf (s : Nat → Nat) (Kf : Nat → Nat) (k i : Nat) (j : Nat) : Bool := decide (s (36 + 13 * j + 3) = 2 ∧ k < Kf j ∧ (j < i → k + 1 < Kf j))
theorem pOi (hR : pOk B c l s) {Kf : Nat → Nat} (hKf : ∀ i, i < s 10 → pOpK s i (Kf i)) {k : Nat} (hk : B + (k + 1) ≤ 10000000) (M : tvM) (hM : pOk B (pV M 1) (pL M 1) s) {c2 : Nat → Nat → Int32} {l2 : Int64} (r2 : pOk (B + (k + 1)) c2 l2 (pIt s (k + 1))) : ∀ m i, i + m = s 10 → tvOi (puC M 21 c2 l2) (nI (k + 1)) m i (nI (tvCt (pYf s Kf k i) (s 10))) = some (nI (tvCt (pYf s Kf k (s 10)) (s 10))) := by
  have s10 := hR.1.2.1.2.2.2.2.2.2.2.2.1
  have hM1 : pOk B (pV (puC M 21 c2 l2) 1) (pL (puC M 21 c2 l2) 1) s := by
    have e : pL (puC M 21 c2 l2) 1 = pL M 1 := congrFun (puC_lo M c2 l2 (by omega)) 8
    rw [e]
    exact pOk_cc hM fun p z hr => puC_o M 21 _ _ (by unfold pRel at hr; omega) z
  obtain ⟨_, _, _, _, i10, _⟩ := pReh hR (k + 1) hk
  intro m
  induction m with
  | zero =>
    intro i e
    rw [show i = s 10 by omega]
    rfl
  | succ m ih =>
    intro i e
    have hi : i < s 10 := by omega
    have hj := pc_just r2 M 21 (i := i) (by omega)
    have hjj := pReh_just hR (k := k + 1) hk (by omega) hi
    have off : ∀ j, j ≠ i → pYf s Kf k i j = pYf s Kf k (i + 1) j := fun j q => by
      unfold pYf
      rw [decide_eq_decide]
      constructor
      · rintro ⟨a, b, d⟩
        exact ⟨a, b, fun z => d (by omega)⟩
      · rintro ⟨a, b, d⟩
        exact ⟨a, b, fun z => d (by omega)⟩
    show (if f_X6_hasJustOpened (puC M 21 c2 l2) 21 (nI i) = 0 then tvOi (puC M 21 c2 l2) (nI (k + 1)) m (i + 1) _ else if f_X6_searchOpening (puC M 21 c2 l2) 1 (nI i) = nI (k + 1) then tvOi (puC M 21 c2 l2) (nI (k + 1)) m (i + 1) (_ + (-1)) else none) = _
    rw [hj]
    by_cases q : s (36 + 13 * i + 3) = 2 ∧ Kf i = k + 1
    · rw [if_pos (hjj.2 ⟨q.1, by rw [← q.2]; exact hKf i hi⟩), if_neg p10]
      have es := pc_search hM1 (puC M 21 c2 l2) hi q.1 (hKf i hi)
      rw [show puC (puC M 21 c2 l2) 1 (pV (puC M 21 c2 l2) 1) (pL (puC M 21 c2 l2) 1) = puC M 21 c2 l2 from puC_self _ 1] at es
      rw [es, q.2, if_pos rfl, tvCt_off (f := pYf s Kf k i) (g := pYf s Kf k (i + 1)) hi (by unfold pYf; rw [decide_eq_true_iff]; exact ⟨q.1, by omega, fun z => absurd z (by omega)⟩) (by unfold pYf; rw [decide_eq_false_iff_not]; rintro ⟨_, _, d⟩; have := d (by omega); omega) off, pn_m]
      exact ih (i + 1) (by omega)
    · rw [if_neg (fun z => q ⟨(hjj.1 z).1, pIsK_u (hKf i hi) (hjj.1 z).2⟩), if_pos rfl]
      have : tvCt (pYf s Kf k i) (s 10) = tvCt (pYf s Kf k (i + 1)) (s 10) := tvCt_c fun j hj => by
        by_cases e2 : j = i
        · subst e2
          unfold pYf
          rw [decide_eq_decide]
          constructor
          · rintro ⟨a, b, d⟩
            exact ⟨a, b, fun _ => by
              have : Kf j ≠ k + 1 := fun z => q ⟨a, z⟩
              omega⟩
          · rintro ⟨a, b, d⟩
            exact ⟨a, b, fun z => absurd z (by omega)⟩
        · exact off j e2
      rw [this]
      exact ih (i + 1) (by omega)
theorem pOo (hR : pOk B c l s) (hB : B + 3840 ≤ 10000000) {Kf : Nat → Nat} (hKf : ∀ i, i < s 10 → pOpK s i (Kf i)) (M : tvM) (hM : pOk B (pV M 1) (pL M 1) s) : ∀ n k c, n + k = 3840 → pOk (B + k) c l (pIt s k) → ∃ c', tvOo n (k + 1) (nI (tvCt (pYf s Kf k 0) (s 10))) (puC M 21 c l) = (1, puC M 21 c' l) := by
  have s10 := hR.1.2.1.2.2.2.2.2.2.2.2.1
  intro n
  induction n with
  | zero =>
    intro k c hk r
    have : tvCt (pYf s Kf k 0) (s 10) = 0 := tvCt_0 fun j hj => by
      unfold pYf
      rw [decide_eq_false_iff_not]
      rintro ⟨_, b, _⟩
      have := (hKf j hj).2.1
      omega
    rw [tvOo_0, this]
    exact ⟨c, rfl⟩
  | succ n ih =>
    intro k c hk r
    obtain ⟨c2, g, _, r2, _, _, _, mo, _⟩ := pMinute r (by omega)
    have eN : pIt s (k + 1) = pMin (pIt s k) := rfl
    rw [← eN] at r2
    have hct := tvCt_le (pYf s Kf k 0) (s 10)
    obtain ⟨_, _, _, _, i10, _⟩ := pReh hR (k + 1) (by omega)
    obtain ⟨_, _, _, _, i10k, _⟩ := pReh hR k (by omega)
    rw [tvOo_s]
    by_cases q : tvCt (pYf s Kf k 0) (s 10) = 0
    · rw [q, if_pos (by decide)]
      exact ⟨c, rfl⟩
    · rw [if_neg (by rw [pl_0, pn_le (by omega) (by omega)]; omega), g]
      dsimp only
      have hnx : ∀ k, tvCt (pYf s Kf k (s 10)) (s 10) = tvCt (pYf s Kf (k + 1) 0) (s 10) := fun k => tvCt_c fun j hj => by
        unfold pYf
        rw [decide_eq_decide]
        constructor
        · rintro ⟨a, b, d⟩
          exact ⟨a, d hj, fun z => absurd z (by omega)⟩
        · rintro ⟨a, b, d⟩
          exact ⟨a, by omega, fun _ => b⟩
      by_cases q2 : pMO (pIt s k) = 0
      · rw [q2, if_pos (by decide)]
        have : tvCt (pYf s Kf k 0) (s 10) = tvCt (pYf s Kf (k + 1) 0) (s 10) := tvCt_c fun j hj => by
          unfold pYf
          rw [decide_eq_decide]
          constructor
          · rintro ⟨a, b, d⟩
            refine ⟨a, ?_, fun z => absurd z (by omega)⟩
            have : Kf j ≠ k + 1 := fun z => pReh_mo hR (k := k) (by omega) hj a (by rw [← z]; exact hKf j hj) q2
            omega
          · rintro ⟨a, b, d⟩
            exact ⟨a, by omega, fun z => absurd z (by omega)⟩
        rw [this]
        exact ih (k + 1) c2 (by omega) r2
      · rw [if_neg (by rw [pl_0, pn_le (by omega) (by omega)]; omega)]
        have e7 : (tgi (puC M 21 c2 l) 7 0).toNatClampNeg = s 10 := by
          have c60 := hM.2.1.2.2.2.2.2.2.2.2
          rw [show tgi (puC M 21 c2 l) 7 0 = nI (s 10) from (puC_o M 21 _ _ (by omega) 0).trans c60, pn_c (by omega)]
        have hO := pOi hR hKf (k := k) (by omega) M hM r2 (s 10) 0 (by omega)
        rw [e7, hO]
        show ∃ c', tvOo n (k + 1 + 1) (nI (tvCt (pYf s Kf k (s 10)) (s 10))) (puC M 21 c2 l) = (1, puC M 21 c' l)
        rw [hnx k]
        exact ih (k + 1) c2 (by omega) r2
theorem pc_consistent (hR : pOk B c l s) (hB : B + 3840 ≤ 10000000) (M : tvM) (hc : c = pV M 1) (hl : l = pL M 1) : ∃ c', f_X8_isConsistent M = (1, puC M 21 c' l) := by
  subst hc
  subst hl
  have s10 := hR.1.2.1.2.2.2.2.2.2.2.2.1
  have hKf : ∃ Kf : Nat → Nat, ∀ i, i < s 10 → pOpK s i (Kf i) := Classical.axiomOfChoice (r := fun i K => i < s 10 → pOpK s i K) fun i => by
    by_cases hi : i < s 10
    · obtain ⟨K, hK⟩ := pOpK_ex hR (i := i) (by omega)
      exact ⟨K, fun _ => hK⟩
    · exact ⟨0, fun h => absurd h hi⟩
  obtain ⟨Kf, hKf⟩ := hKf
  obtain ⟨c, g, r⟩ := pc_reh hR
  obtain ⟨c', w⟩ := pOo r hB hKf M hR 3840 0 c (by omega) r
  have ey : f_X0_countIn (puC M 21 c (pL M 1)) 1 112 = nI (tvCt (pYf s Kf 0 0) (s 10)) := by
    unfold f_X0_countIn
    have hM1 : pOk B (pV (puC M 21 c (pL M 1)) 1) (pL (puC M 21 c (pL M 1)) 1) s := by
      have e : pL (puC M 21 c (pL M 1)) 1 = pL M 1 := congrFun (puC_lo M c (pL M 1) (by omega)) 8
      rw [e]
      exact pOk_cc hR fun p z hr => puC_o M 21 _ _ (by unfold pRel at hr; omega) z
    have c60 := hM1.2.1.2.2.2.2.2.2.2.2
    rw [show tgi (puC M 21 c (pL M 1)) (1 + 6) 0 = nI (s 10) from c60, pn_c (by omega)]
    congr 1
    refine tvCt_c fun i hi => ?_
    have := pc_status (puC M 21 c (pL M 1)) 1 (pL (puC M 21 c (pL M 1)) 1) c60 s10 hi
    rw [show puC (puC M 21 c (pL M 1)) 1 (pV (puC M 21 c (pL M 1)) 1) (pL (puC M 21 c (pL M 1)) 1) = puC M 21 c (pL M 1) from puC_self _ 1] at this
    rw [this, (hM1.2.2.2.1 i hi).2.2.2.1, pSt_tnc]
    unfold pYf
    rw [decide_eq_decide]
    have h3 := (hR.1.2.2.2.1 i (by omega)).2.1
    rw [(pSt_eq _ h3).2.2.1]
    exact ⟨fun e => ⟨e, (hKf i hi).1, fun z => absurd z (by omega)⟩, fun e => e.1⟩
  have eO : f_X8_doOpeningsAgree M = (1, puC M 21 c' (pL M 1)) := by
    unfold f_X8_doOpeningsAgree
    rw [g, ey]
    exact w
  obtain ⟨M1, hM1⟩ : ∃ z, z = puC M 21 c' (pL M 1) := ⟨_, rfl⟩
  have hR1 : pOk B (pV M1 1) (pL M1 1) s := by
    rw [hM1]
    have e : pL (puC M 21 c' (pL M 1)) 1 = pL M 1 := congrFun (puC_lo M c' (pL M 1) (by omega)) 8
    rw [e]
    exact pOk_cc hR fun p z hr => puC_o M 21 _ _ (by unfold pRel at hr; omega) z
  have eS : puC M1 1 (pV M1 1) (pL M1 1) = M1 := puC_self M1 1
  rw [← hM1] at eO
  have eA : f_X6_doLowMinutesAgree M1 1 = 1 := by
    unfold f_X6_doLowMinutesAgree
    rw [if_neg]
    intro q
    have h2 := fa_first_yes _ _ q
    generalize fa_first (tvAg M1 1) 21 = z at q h2
    unfold tvAg at h2
    have f1 := pc_lowF hR1 M1 (n := 50 * z) (by omega)
    have f2 := pc_lowC hR1 M1 (n := 50 * z) (by omega)
    rw [eS] at f1 f2
    rw [f1, f2] at h2
    simp at h2
  have eT : f_X0_sumOfAll M1 1 = lN (pSu s) := by
    have := pc_sumAll hR1 M1 1
    rwa [eS] at this
  have eG : tgl M1 1 8 = lN (pSu s) := by
    have e1 : tgl M1 1 8 = lN (s 6 - s 7) := hR1.2.1.2.2.2.2.1
    have e2 := hR1.1.2.2.2.2.2
    rw [e1, show s 6 - s 7 = pSu s by omega]
  refine ⟨c', ?_⟩
  unfold f_X8_isConsistent
  rw [eO]
  dsimp only
  rw [if_neg p10, eA, if_neg p10, eT, eG, lg_self, if_pos rfl, hM1]
end
