theorem pLeast (P : Nat → Prop) : ∀ N, (∃ k, k ≤ N ∧ P k) → ∃ m, m ≤ N ∧ P m ∧ ∀ j, j < m → ¬ P j := by
  intro N
  induction N with
  | zero =>
    rintro ⟨k, hk, hp⟩
    exact ⟨k, hk, hp, fun j hj => by omega⟩
  | succ N ih =>
    rintro ⟨k, hk, hp⟩
    by_cases h : ∃ k, k ≤ N ∧ P k
    · obtain ⟨m, h1, h2, h3⟩ := ih h
      exact ⟨m, by omega, h2, h3⟩
    · have : k = N + 1 := by
        apply Classical.byContradiction
        intro q
        exact h ⟨k, by omega, hp⟩
      subst this
      exact ⟨_, Nat.le_refl _, hp, fun j hj hq => h ⟨j, by omega, hq⟩⟩
/-- low minutes from T on, k of them -/
def pCt (p q T k : Nat) : Nat := tvCt (pLc p q T) k
theorem pCt_s (p q T k : Nat) : pCt p q T (k + 1) = pCt p q T k + (if (T + k) % p < q then 1 else 0) := by
  unfold pCt
  rw [tvCt_s]
  unfold pLc
  by_cases h : (T + k) % p < q
  · simp [h]
  · simp [h]
theorem pCt_mono (p q T : Nat) {j k : Nat} (h : j ≤ k) : pCt p q T j ≤ pCt p q T k := by
  induction k with
  | zero => rw [show j = 0 by omega]; exact Nat.le_refl _
  | succ k ih =>
    by_cases e : j = k + 1
    · rw [e]; exact Nat.le_refl _
    · have := ih (by omega)
      rw [pCt_s]
      omega
theorem pCt_p {p q T m : Nat} (h : 0 < p) (hq : q ≤ p) : pCt p q T (p * m) = m * q := by
  have e := pLw_ct (T := T) h hq (p * m)
  unfold pLw at e
  rw [Nat.add_mul_div_left T m h, Nat.add_mul_mod_self_left, Nat.add_mul] at e
  unfold pCt
  omega
theorem pCt_80 {p q T : Nat} (h : 0 < p) (h2 : p ≤ 480) (hq : q ≤ p) (h3 : 10 ≤ q) : 80 ≤ pCt p q T 3840 := by
  have e := pCt_p (T := T) (m := 8) h hq
  have := pCt_mono p q T (j := p * 8) (k := 3840) (by omega)
  omega
/-- the minute K is the first at which the box can open -/
def pIsK (p q T r K : Nat) : Prop := 1 ≤ K ∧ K ≤ 3839 ∧ (r ≤ pCt p q T K ∧ (T + K) % p < q) ∧ ∀ k, 1 ≤ k → k < K → ¬ (r ≤ pCt p q T k ∧ (T + k) % p < q)
theorem pK_no {p q T r : Nat} {K : Nat} (h : ∀ k, 1 ≤ k → k < K → ¬ (r ≤ pCt p q T k ∧ (T + k) % p < q)) : ∀ k, k < K → pCt p q T (k + 1) ≤ max r (pCt p q T 1) := by
  intro k
  induction k with
  | zero => intro _; exact Nat.le_max_right _ _
  | succ k ih =>
    intro hk
    have h1 := ih (by omega)
    have h2 := h (k + 1) (by omega) hk
    rw [pCt_s p q T (k + 1)]
    by_cases h3 : (T + (k + 1)) % p < q
    · rw [if_pos h3]
      omega
    · rw [if_neg h3]
      omega
theorem pK_ex {p q T r : Nat} (h : 0 < p) (h2 : p ≤ 480) (hq : q ≤ p) (h3 : 10 ≤ q) (hr : r ≤ 60) : ∃ K, pIsK p q T r K := by
  have hex : ∃ k, k ≤ 3839 ∧ (1 ≤ k ∧ r ≤ pCt p q T k ∧ (T + k) % p < q) := by
    apply Classical.byContradiction
    intro hno
    have := pK_no (p := p) (q := q) (T := T) (r := r) (K := 3840) (fun k h1 h2 h3 => hno ⟨k, by omega, h1, h3⟩) 3839 (by omega)
    rw [show 3839 + 1 = 3840 from rfl] at this
    have h8 := pCt_80 (T := T) h h2 hq h3
    have h1 : pCt p q T 1 ≤ 1 := by
      rw [show (1 : Nat) = 0 + 1 from rfl, pCt_s]
      show 0 + _ ≤ _
      split <;> omega
    omega
  obtain ⟨K, k1, ⟨k2, k3, k4⟩, k5⟩ := pLeast _ _ hex
  exact ⟨K, k2, k1, ⟨k3, k4⟩, fun k q1 q2 q3 => k5 k q2 ⟨q1, q3⟩⟩
/-- the class's bound for the search -/
def pNd (p q T r : Nat) : Nat := if r = 0 ∧ T % p < q then 2 else r + 1
theorem pK_nd {p q T r K : Nat} (h : pIsK p q T r K) {k : Nat} (hk : 1 ≤ k) : pCt p q T (k + 1) < pNd p q T r ↔ k < K := by
  obtain ⟨h1, h2, ⟨h3, h4⟩, h5⟩ := h
  have e1 : pCt p q T 1 = if T % p < q then 1 else 0 := by
    rw [show (1 : Nat) = 0 + 1 from rfl, pCt_s]
    show 0 + _ = _
    rw [Nat.add_zero, Nat.zero_add]
  unfold pNd
  constructor
  · intro hlt
    apply Classical.byContradiction
    intro hn
    have m := pCt_mono p q T (j := K + 1) (k := k + 1) (by omega)
    have m2 := pCt_mono p q T (j := 1) (k := K) h1
    rw [pCt_s, if_pos h4] at m
    by_cases q1 : T % p < q
    · rw [if_pos q1] at e1
      by_cases q2 : r = 0
      · rw [if_pos ⟨q2, q1⟩] at hlt
        omega
      · rw [if_neg (fun e => q2 e.1)] at hlt
        omega
    · rw [if_neg (fun e => q1 e.2)] at hlt
      omega
  · intro hlt
    have := pK_no h5 k hlt
    rw [e1] at this
    by_cases q1 : T % p < q
    · rw [if_pos q1] at this
      by_cases q2 : r = 0
      · rw [if_pos ⟨q2, q1⟩]
        omega
      · rw [if_neg (fun e => q2 e.1)]
        omega
    · rw [if_neg q1] at this
      rw [if_neg (fun e => q1 e.2)]
      omega
theorem tvSo_K (f : Nat → Bool) (K : Nat) : ∀ n a, a < K → K ≤ a + 2 ^ n → (∀ j, 1 ≤ j → j < K → f j = true) → (∀ j, K ≤ j → j < a + 2 ^ n → f j = false) → tvSo f n a + 1 = K := by
  intro n
  induction n with
  | zero =>
    intro a h2 h3 _ _
    show a + 1 = K
    omega
  | succ n ih =>
    intro a h2 h3 h4 h5
    have e0 : 2 ^ (n + 1) = 2 ^ n + 2 ^ n := by rw [Nat.pow_succ]; omega
    have hp0 : 0 < 2 ^ n := Nat.pow_pos (by omega)
    rw [tvSo]
    by_cases q2 : a + 2 ^ n < K
    · rw [if_pos (h4 _ (by omega) q2)]
      exact ih _ (by omega) (by omega) h4 (fun j j1 j2 => h5 j j1 (by omega))
    · rw [if_neg (by rw [h5 _ (by omega) (by omega)]; decide)]
      exact ih _ (by omega) (by omega) h4 (fun j j1 j2 => h5 j j1 (by omega))
section
variable {B : Nat} {c : Nat → Nat → Int32} {l : Int64} {s : Nat → Nat}
theorem pc_lowF' (hR : pOk B c l s) (M : tvM) {n : Nat} (hn : n ≤ 4200) : f_X7_lowByFormula (puC M 1 c l) 1 (tgi (puC M 1 c l) 1 4) (nI n) = nI (pCt (s 1) (s 2) (s 0) n) := by
  obtain ⟨⟨hb, hs, hh, hx, he, hsum⟩, ⟨hc, hch, hcx, hcl⟩⟩ := id hR
  have hs' := hs
  obtain ⟨s0, s1, s2, s3, s45, s67, s8, s9, s10, s11, sB⟩ := hs
  have hc' := hc
  obtain ⟨c04, c05, c06, c07, cl, c10, c11, c20, c60⟩ := hc
  unfold f_X7_lowByFormula
  rw [puC_g0, c04, nI_add, pc_lowB M 1 l c10 c11 (by omega) (by omega) (by omega) (by omega), pc_lowB M 1 l c10 c11 (by omega) (by omega) (by omega) (by omega), pLw_ct (by omega) (by omega), pn_sub (by omega), Nat.add_sub_cancel_left]
  rfl
/-- the minute at which box i opens -/
def pOpK (s : Nat → Nat) (i K : Nat) : Prop := pIsK (s 1) (s 2) (s 0) (s (36 + 13 * i + 6)) K
theorem pOpK_ex (hR : pOk B c l s) {i : Nat} (hi : i < 10) : ∃ K, pOpK s i K := by
  obtain ⟨⟨hb, hs, hh, hx, he, hsum⟩, ⟨hc, hch, hcx, hcl⟩⟩ := id hR
  have hs' := hs
  obtain ⟨s0, s1, s2, s3, s45, s67, s8, s9, s10, s11, sB⟩ := hs
  have hc' := hc
  obtain ⟨c04, c05, c06, c07, cl, c10, c11, c20, c60⟩ := hc
  exact pK_ex (by omega) (by omega) (by omega) (by omega) (hx i hi).2.2.2.1
theorem pc_search (hR : pOk B c l s) (M : tvM) {i K : Nat} (hi : i < s 10) (h2 : s (36 + 13 * i + 3) = 2) (hK : pOpK s i K) : f_X6_searchOpening (puC M 1 c l) 1 (nI i) = nI K := by
  have hR0 := hR
  obtain ⟨⟨hb, hs, hh, hx, he, hsum⟩, ⟨hc, hch, hcx, hcl⟩⟩ := id hR
  have hs' := hs
  obtain ⟨s0, s1, s2, s3, s45, s67, s8, s9, s10, s11, sB⟩ := hs
  have hc' := hc
  obtain ⟨c04, c05, c06, c07, cl, c10, c11, c20, c60⟩ := hc
  have hr := (hx i (by omega)).2.2.2.1
  have er : f_X0_remainingOf (puC M 1 c l) 1 (nI i) = nI (s (36 + 13 * i + 6)) := by
    rw [pc_rem M 1 l c60 s10 hi, (hcx i hi).2.2.2.2.2.2.1 h2]
  have el : tvLt (puC M 1 c l) 1 (nI i) = nI (pNd (s 1) (s 2) (s 0) (s (36 + 13 * i + 6))) := by
    unfold tvLt
    rw [er, pc_isLow M 1 l c04 c10 c11 (by omega) (by omega) (by omega) (by omega)]
    unfold pNd
    by_cases q1 : s (36 + 13 * i + 6) = 0
    · rw [if_pos (by rw [q1]; rfl)]
      by_cases q2 : s 0 % s 1 < s 2
      · rw [if_pos q2, if_neg p10, if_pos ⟨q1, q2⟩]
        rfl
      · rw [if_neg q2, if_pos rfl, if_neg (fun e => q2 e.2), nI_1]
    · rw [if_neg (by rw [pl_0, pn_eq (by omega) (by omega)]; exact q1), if_neg (fun e => q1 e.1), nI_1]
  have hnd : pNd (s 1) (s 2) (s 0) (s (36 + 13 * i + 6)) ≤ 61 := by
    unfold pNd
    split <;> omega
  have ef : ∀ k, 1 ≤ k → k < 4096 → (tvSp (puC M 1 c l) 1 (nI i) k = true ↔ k < K) := fun k k1 k2 => by
    unfold tvSp
    have hc := tvCt_le (pLc (s 1) (s 2) (s 0)) (k + 1)
    rw [pc_lowF' hR0 M (by omega), el, decide_eq_true_iff, pn_lt (by unfold pCt; omega) (by omega)]
    exact pK_nd hK k1
  unfold f_X6_searchOpening
  rw [tvSo_K _ K 12 0 (by have := hK.1; omega) (by have := hK.2.1; omega) (fun j j1 j2 => (ef j j1 (by have := hK.2.1; omega)).2 j2) (fun j j1 j2 => by
    have := ef j (by have := hK.1; omega) (by omega)
    cases q : tvSp (puC M 1 c l) 1 (nI i) j with
    | false => rfl
    | true => exact absurd (this.1 q) (by omega))]
theorem px_untilOpen (hR : pOk B c l s) (M' : tvM) (t : Int32) {i K : Nat} (hi : i < s 10) (h2 : s (36 + 13 * i + 3) = 2) (hK : pOpK s i K) : q_X9_minutesUntilOpen (puN M' s t) (nI i) ∧ f_X9_minutesUntilOpen (puN M' s t) (nI i) = (nI K, puN M' s (nI 0)) := by
  obtain ⟨⟨hb, hs, hh, hx, he, hsum⟩, ⟨hc, hch, hcx, hcl⟩⟩ := id hR
  have hs' := hs
  obtain ⟨s0, s1, s2, s3, s45, s67, s8, s9, s10, s11, sB⟩ := hs
  have hc' := hc
  obtain ⟨c04, c05, c06, c07, cl, c10, c11, c20, c60⟩ := hc
  have hr := (hx i (by omega)).2.2.2.1
  obtain ⟨K1, K2, ⟨K3, K4⟩, K5⟩ := hK
  have np : f_X9_isNotPending (puN M' s t) (nI i) = (nI 0, puN M' s (nI 0)) ∧ q_X9_isNotPending (puN M' s t) (nI i) := by
    have g1 := px_box1 M' s t s10 hi
    have e3 : ∀ t, f_X9_of (puN M' s t) (nI i) 3 = nI 2 := fun t => (px_of M' s t (w := 3) (by omega) (by omega)).trans (by rw [h2])
    unfold f_X9_isNotPending q_X9_isNotPending
    rw [g1, if_neg (by decide), px_thr, pl_0, puN_pt, e3, if_pos (show nI 2 = 2 from rfl)]
    have e0 : (f_X9_isThrown (puN M' s (nI 0)) (nI 0) 2).2 = puN M' s (nI 0) := by
      unfold f_X9_isThrown
      rw [if_pos (show nI 0 = 0 from rfl)]
      exact puN_pt _ _ _ _
    rw [e0]
    exact ⟨rfl, fun q => absurd q (by decide), fun _ => ⟨px_qof _ (w := 3) (by omega) (by omega), fun _ => trivial, fun _ => trivial⟩⟩
  obtain ⟨np1, np2⟩ := np
  have hlow : ∀ k, k ≤ 4000 → f_X9_low (puN M' s (nI 0)) (nI (s 0 + k)) = if (s 0 + k) % s 1 < s 2 then nI 1 else nI 0 := fun k hk => px_low _ _ _ (by omega) (by omega) (by omega) (by omega)
  have qlow : ∀ z, q_X9_low (puN M' s (nI 0)) z := fun z => px_qlow _ _ _ (by omega) (by omega)
  -- the state after k minutes
  obtain ⟨r, er⟩ : ∃ z, z = s (36 + 13 * i + 6) := ⟨_, rfl⟩
  rw [← er] at hr K3 K5
  have he' : e_X9_minutesUntilOpen (puN M' s t) (nI i) = .inl (nI (r - pCt (s 1) (s 2) (s 0) 0), nI (s 0 + 0), 0, puN M' s (nI 0)) := by
    unfold e_X9_minutesUntilOpen
    rw [np1]
    dsimp only
    rw [if_pos (show nI 0 = 0 from rfl), puN_g, show f_X9_of (puN M' s (nI 0)) (nI i) 6 = nI (s (36 + 13 * i + 6)) from px_of M' s (nI 0) (w := 6) (by omega) (by omega), ← er]
    rfl
  have st : ∀ k, k < K → sb_X9_minutesUntilOpen (nI i) (nI (r - pCt (s 1) (s 2) (s 0) k)) (nI (s 0 + k)) 0 (puN M' s (nI 0)) = .inl (nI (r - pCt (s 1) (s 2) (s 0) (k + 1)), nI (s 0 + (k + 1)), (if k + 1 = K then 1 else 0), puN M' s (nI 0)) := fun k hk => by
    have cond : (r - pCt (s 1) (s 2) (s 0) (k + 1) = 0 ∧ (s 0 + (k + 1)) % s 1 < s 2) ↔ k + 1 = K := by
      constructor
      · rintro ⟨c1, c2⟩
        apply Classical.byContradiction
        intro ne
        exact K5 (k + 1) (by omega) (by omega) ⟨by omega, c2⟩
      · intro e
        rw [e]
        exact ⟨by omega, K4⟩
    unfold sb_X9_minutesUntilOpen
    rw [if_pos rfl, hlow k (by omega), nI_1, show s 0 + k + 1 = s 0 + (k + 1) from rfl, hlow (k + 1) (by omega)]
    have fin : ∀ v, v = r - pCt (s 1) (s 2) (s 0) (k + 1) → (if nI v = 0 then (if (if (s 0 + (k + 1)) % s 1 < s 2 then nI 1 else nI 0) = 0 then (Sum.inl (nI v, nI (s 0 + (k + 1)), 0, puN M' s (nI 0)) : (Int32 × Int32 × Int32 × tvM) ⊕ (Int32 × tvM)) else Sum.inl (nI v, nI (s 0 + (k + 1)), 1, puN M' s (nI 0))) else Sum.inl (nI v, nI (s 0 + (k + 1)), 0, puN M' s (nI 0))) = Sum.inl (nI (r - pCt (s 1) (s 2) (s 0) (k + 1)), nI (s 0 + (k + 1)), (if k + 1 = K then 1 else 0), puN M' s (nI 0)) := by
      intro v ev
      by_cases c1 : v = 0
      · rw [if_pos (by rw [c1]; rfl)]
        by_cases c2 : (s 0 + (k + 1)) % s 1 < s 2
        · rw [if_pos c2, if_neg (by decide), if_pos (cond.1 ⟨by omega, c2⟩), ev]
        · rw [if_neg c2, if_pos (show nI 0 = 0 from rfl), if_neg (fun e => c2 (cond.2 e).2), ev]
      · rw [if_neg (by rw [pl_0, pn_eq (by omega) (by omega)]; exact c1), if_neg (fun e => c1 (by have := (cond.2 e).1; omega)), ev]
    by_cases q : (s 0 + k) % s 1 < s 2
    · have ec := pCt_s (s 1) (s 2) (s 0) k
      rw [if_pos q] at ec
      rw [if_pos q, if_neg (show ¬ nI 1 = 0 by decide)]
      by_cases q2 : r - pCt (s 1) (s 2) (s 0) k = 0
      · rw [if_pos (by rw [q2]; decide), Int32.sub_zero]
        exact fin _ (by omega)
      · rw [if_neg (by rw [pl_0, pn_le (by omega) (by omega)]; omega), pl_1, pn_sub (by omega)]
        exact fin _ (by omega)
    · have ec := pCt_s (s 1) (s 2) (s 0) k
      rw [if_neg q] at ec
      rw [if_neg q, if_pos (show nI 0 = 0 from rfl), Int32.sub_zero]
      exact fin _ (by omega)
  have qs : ∀ a b d, qb_X9_minutesUntilOpen (nI i) a b d (puN M' s (nI 0)) := fun a b d => ⟨fun _ => ⟨qlow _, fun _ => ⟨fun _ => ⟨qlow _, fun _ => trivial, fun _ => trivial⟩, fun _ => trivial⟩, fun _ => ⟨fun _ => ⟨fun _ => ⟨qlow _, fun _ => trivial, fun _ => trivial⟩, fun _ => trivial⟩, fun _ => ⟨fun _ => ⟨qlow _, fun _ => trivial, fun _ => trivial⟩, fun _ => trivial⟩⟩⟩, fun _ => trivial⟩
  have l0 : pEnd (s_X9_minutesUntilOpen (nI i)) (qs_X9_minutesUntilOpen (nI i)) (0 + 1 + 1 + (K - 1)) (e_X9_minutesUntilOpen (puN M' s t) (nI i)) (nI K, puN M' s (nI 0)) := by
    rw [he']
    refine pEnd_n (fun k => (nI (r - pCt (s 1) (s 2) (s 0) k), nI (s 0 + k), 0, puN M' s (nI 0))) (K - 1) (fun k hk => ?_) (fun k hk => qs _ _ _) (pEnd_1 (y := .inl (nI (r - pCt (s 1) (s 2) (s 0) K), nI (s 0 + K), 1, puN M' s (nI 0))) ?_ (qs _ _ _) (pEnd_1 (y := .inr (nI K, puN M' s (nI 0))) ?_ (qs _ _ _) (pEnd_r _ _)))
    · have := st k (by omega)
      rw [if_neg (by omega)] at this
      exact this
    · have := st (K - 1) (by omega)
      rw [show K - 1 + 1 = K by omega, if_pos rfl] at this
      exact this
    · unfold s_X9_minutesUntilOpen sb_X9_minutesUntilOpen
      simp only []
      rw [if_neg p10, puN_g, pn_sub (by omega), Nat.add_sub_cancel_left]
  have l1 := pEnd_to (F' := 5000) l0 (by omega)
  refine ⟨⟨?_, ⟨_, l1.1⟩, l1.2⟩, pGet l1.1⟩
  unfold qe_X9_minutesUntilOpen
  rw [np1]
  exact ⟨np2, fun _ => ⟨px_qof _ (w := 6) (by omega) (by omega), trivial⟩, fun hn => absurd rfl hn⟩
end

