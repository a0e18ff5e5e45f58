theorem wd_0 : pWd 0 [104, 111, 108, 100, 101, 114, 32] := by
  unfold pWd
  decide
theorem wd_1 : pWd 1 [98, 111, 120, 32] := by
  unfold pWd
  decide
theorem wd_2 : pWd 2 [116, 105, 100, 101, 32] := by
  unfold pWd
  decide
theorem wd_3 : pWd 3 [116, 117, 114, 110, 32] := by
  unfold pWd
  decide
theorem wd_4 : pWd 4 [99, 111, 100, 101, 32] := by
  unfold pWd
  decide
theorem wd_5 : pWd 5 [112, 117, 116, 32] := by
  unfold pWd
  decide
theorem wd_6 : pWd 6 [116, 97, 107, 101, 32] := by
  unfold pWd
  decide
theorem wd_7 : pWd 7 [99, 108, 111, 115, 101, 32] := by
  unfold pWd
  decide
theorem wd_8 : pWd 8 [119, 97, 105, 116] := by
  unfold pWd
  decide
theorem wd_19 : pWd 19 [111, 108, 100, 101, 114, 32] := by
  unfold pWd
  decide
theorem wd_20 : pWd 20 [111, 120, 32] := by
  unfold pWd
  decide
theorem wd_21 : pWd 21 [114, 110, 32] := by
  unfold pWd
  decide
theorem wd_22 : pWd 22 [100, 101, 32] := by
  unfold pWd
  decide
theorem wd_23 : pWd 23 [97, 107, 101, 32] := by
  unfold pWd
  decide
theorem wd_24 : pWd 24 [108, 111, 115, 101, 32] := by
  unfold pWd
  decide
theorem wd_25 : pWd 25 [117, 116, 32] := by
  unfold pWd
  decide
theorem wd_26 : pWd 26 [97, 105, 116] := by
  unfold pWd
  decide
def pWl (i : Nat) : List Nat := [[104, 111, 108, 100, 101, 114, 32], [98, 111, 120, 32], [116, 105, 100, 101, 32], [116, 117, 114, 110, 32], [99, 111, 100, 101, 32], [112, 117, 116, 32], [116, 97, 107, 101, 32], [99, 108, 111, 115, 101, 32], [119, 97, 105, 116]].getD i []
theorem pWl_wd {i : Nat} (h : i < 9) : pWd (f_X5_wordOf (nI i)) (pWl i) := by
  rcases (show i = 0 ∨ i = 1 ∨ i = 2 ∨ i = 3 ∨ i = 4 ∨ i = 5 ∨ i = 6 ∨ i = 7 ∨ i = 8 by omega) with rfl | rfl | rfl | rfl | rfl | rfl | rfl | rfl | rfl
  · exact wd_0
  · exact wd_1
  · exact wd_2
  · exact wd_3
  · exact wd_4
  · exact wd_5
  · exact wd_6
  · exact wd_7
  · exact wd_8
/-! numbers -/
def pnD (n : Nat) (T : Nat → Nat) : Nat → Nat → Nat
  | 0, _ => 0
  | d + 1, p => if p < n ∧ 48 ≤ T p ∧ T p ≤ 57 then 1 + pnD n T d (p + 1) else 0
def pnU (T : Nat → Nat) (p : Nat) : Nat → Nat
  | 0 => 0
  | i + 1 => 10 * pnU T p i + (T (p + i) - 48)
theorem pnD_le (n : Nat) (T : Nat → Nat) : ∀ d p, pnD n T d p ≤ d := by
  intro d
  induction d with
  | zero => intro p; exact Nat.le_refl _
  | succ d ih =>
    intro p
    show (if p < n ∧ 48 ≤ T p ∧ T p ≤ 57 then 1 + pnD n T d (p + 1) else 0) ≤ d + 1
    have := ih (p + 1)
    split <;> omega
theorem pnD_in (n : Nat) (T : Nat → Nat) : ∀ d p i, i < pnD n T d p → p + i < n ∧ 48 ≤ T (p + i) ∧ T (p + i) ≤ 57 := by
  intro d
  induction d with
  | zero => intro p i hi; exact absurd hi (by show ¬ i < 0; omega)
  | succ d ih =>
    intro p i hi
    have hi' : i < (if p < n ∧ 48 ≤ T p ∧ T p ≤ 57 then 1 + pnD n T d (p + 1) else 0) := hi
    by_cases q : p < n ∧ 48 ≤ T p ∧ T p ≤ 57
    · rw [if_pos q] at hi'
      cases i with
      | zero => exact q
      | succ i =>
        have := ih (p + 1) i (by omega)
        rw [show p + (i + 1) = p + 1 + i by omega]
        exact this
    · rw [if_neg q] at hi'
      omega
theorem pnD_end (n : Nat) (T : Nat → Nat) : ∀ d p, pnD n T d p < d → ¬ (p + pnD n T d p < n ∧ 48 ≤ T (p + pnD n T d p) ∧ T (p + pnD n T d p) ≤ 57) := by
  intro d
  induction d with
  | zero => intro p hi; exact absurd hi (by show ¬ 0 < 0; omega)
  | succ d ih =>
    intro p hi
    have e : pnD n T (d + 1) p = (if p < n ∧ 48 ≤ T p ∧ T p ≤ 57 then 1 + pnD n T d (p + 1) else 0) := rfl
    by_cases q : p < n ∧ 48 ≤ T p ∧ T p ≤ 57
    · rw [if_pos q] at e
      rw [e] at hi ⊢
      have := ih (p + 1) (by omega)
      rw [show p + (1 + pnD n T d (p + 1)) = p + 1 + pnD n T d (p + 1) by omega]
      exact this
    · rw [if_neg q] at e
      rw [e]
      exact q
section
variable {n : Nat} {T : Nat → Nat} {M0 N0 M N : tvM} {p m k v g : Nat}
theorem pRd_ext (h : pRd n M0 N0 M N p m k v g) {M1 N1 : tvM} {p' k' v' : Nat} (hp : p' ≤ n) (a1 : ∀ a j, ¬ (a = 243 ∧ j = 2) → ¬ (a = 245 ∧ j = m) → M1.1 a j = M.1 a j) (a2 : M1.1 243 2 = nI p') (a3 : M1.2 = M.2) (b1 : ∀ a j, ¬ (a = 249 ∧ (j = 16 ∨ j = 17)) → ¬ (a = 256 ∧ j = 4 * m) → N1.1 a j = N.1 a j) (b2 : N1.1 249 16 = nI p') (b3 : N1.1 249 17 = nI k') (b4 : N1.2 = N.2) (c : v' < 9 → M1.1 245 m = nI v' ∧ N1.1 256 (4 * m) = nI (pLt v')) : pRd n M0 N0 M1 N1 p' m k' v' 0 := by
  obtain ⟨⟨h1, h2, h3, h4, h5, h6⟩, ⟨f1, f2⟩, ⟨f3, f4⟩, hc, hv, hg⟩ := h
  exact ⟨⟨a2, b2, hp, (a1 _ _ (by omega) (by omega)).trans h4, b3, h6⟩, ⟨fun a j q1 q2 q3 => (a1 a j (by omega) (by omega)).trans (f1 a j q1 q2 q3), a3.trans f2⟩, ⟨fun a j q1 q2 => (b1 a j (by omega) (by omega)).trans (f3 a j q1 q2), b4.trans f4⟩, fun i hi => pCm_c (hc i hi) (a1 _ _ (by omega) (by omega)) (fun j _ => a1 _ _ (by omega) (by omega)) (fun j _ => b1 _ _ (by omega) (by omega)), c, fun j hj => absurd hj (by omega)⟩
theorem pRd_arg (h : pRd n M0 N0 M N p m k v g) (w : Int32) : pRd n M0 N0 (tpi M 246 (3 * m + g) w) (tpi N 256 (4 * m + 1 + g) w) p m k v (g + 1) := by
  obtain ⟨⟨h1, h2, h3, h4, h5, h6⟩, ⟨f1, f2⟩, ⟨f3, f4⟩, hc, hv, hg⟩ := h
  have oM : ∀ a j, ¬ (a = 246 ∧ j = 3 * m + g) → (tpi M 246 (3 * m + g) w).1 a j = M.1 a j := fun a j q => by
    by_cases q1 : a = 246
    · subst q1
      exact tpi_k _ _ _ (by omega)
    · exact tpi_o _ _ j q1
  have oN : ∀ a j, ¬ (a = 256 ∧ j = 4 * m + 1 + g) → (tpi N 256 (4 * m + 1 + g) w).1 a j = N.1 a j := fun a j q => by
    by_cases q1 : a = 256
    · subst q1
      exact tpi_k _ _ _ (by omega)
    · exact tpi_o _ _ j q1
  refine ⟨⟨(oM _ _ (by omega)).trans h1, (oN _ _ (by omega)).trans h2, h3, (oM _ _ (by omega)).trans h4, (oN _ _ (by omega)).trans h5, h6⟩, ⟨fun a j q1 q2 q3 => (oM a j (by omega)).trans (f1 a j q1 q2 q3), f2⟩, ⟨fun a j q1 q2 => (oN a j (by omega)).trans (f3 a j q1 q2), f4⟩, fun i hi => pCm_c (hc i hi) (oM _ _ (by omega)) (fun j _ => oM _ _ (by omega)) (fun j _ => oN _ _ (by omega)), fun q => ⟨(oM _ _ (by omega)).trans (hv q).1, (oN _ _ (by omega)).trans (hv q).2⟩, fun j hj => ?_⟩
  by_cases q : j = g
  · subst q
    exact (tpi_s _ _ _ _).trans (tpi_s _ _ _ _).symm
  · exact (oM _ _ (by omega)).trans ((hg j (by omega)).trans (oN _ _ (by omega)).symm)
theorem rd_setArg (h : pRd n M0 N0 M N p m k v g) {j : Nat} (hj : j < 3) (w : Int32) : f_X5_setArgument M (nI j) w = tpi M 246 (3 * m + j) w := by
  have h4 := h.1.2.2.2.1
  have h6 := h.1.2.2.2.2.2
  unfold f_X5_setArgument
  rw [show tgi M 243 3 = nI m from h4, if_neg (pn_neg (by omega)), if_neg (by rw [pl_60, pn_le (by omega) (by omega)]; omega), if_neg (pn_neg (by omega)), if_neg (by rw [pl_3, pn_le (by omega) (by omega)]; omega), show (3 : Int32) = nI 3 from rfl, pn_mul, nI_add, pn_c (by omega), Nat.mul_comm m 3]
theorem rd_dig (hT : pTx n T M0 N0) (h : pRd n M0 N0 M N p m k v g) : ((p < n ∧ 48 ≤ T p ∧ T p ≤ 57) → f_X5_sign M = nI (T p) ∧ f_X5_isDigit M (f_X5_sign M) = 1 ∧ f_X9_isIn N (f_X9_now N) 48 57 = nI 1 ∧ ¬ tgi M 243 1 ≤ tgi M 243 2) ∧ (¬ (p < n ∧ 48 ≤ T p ∧ T p ≤ 57) → (tgi M 243 1 ≤ tgi M 243 2 ∨ f_X5_isDigit M (f_X5_sign M) = 0) ∧ f_X9_isIn N (f_X9_now N) 48 57 = nI 0) := by
  obtain ⟨e1, e2, e3, e4⟩ := rd_len hT h
  obtain ⟨q1, n1⟩ := rd_now hT h
  have hn := hT.1
  have hp := h.1.2.2.1
  have es : f_X5_sign M = if p < n then nI (T p) else 0 := by
    unfold f_X5_sign
    rw [e2, rd_at hT h (by omega)]
  rw [es, n1, e1, e2]
  unfold f_X5_isDigit
  constructor
  · intro q
    rw [if_pos q.1, if_pos q.1]
    refine ⟨rfl, ?_, px_in1 (lo := 48) (hi := 57) N q.2.1 q.2.2 (by omega), by rw [pn_le (by omega) (by omega)]; omega⟩
    rw [if_neg (by rw [show (48 : Int32) = nI 48 from rfl, pn_lt (by omega) (by omega)]; omega), if_neg (by rw [show (57 : Int32) = nI 57 from rfl, pn_lt (by omega) (by omega)]; omega)]
  · intro q
    by_cases q2 : p < n
    · have hc := (hT.2.2.2 p q2).1
      rw [if_pos q2, if_pos q2]
      refine ⟨Or.inr ?_, px_in0 (lo := 48) (hi := 57) N (by omega) (by omega) (by omega) (by omega)⟩
      by_cases q3 : T p < 48
      · rw [if_pos (by rw [show (48 : Int32) = nI 48 from rfl, pn_lt (by omega) (by omega)]; omega)]
      · rw [if_neg (by rw [show (48 : Int32) = nI 48 from rfl, pn_lt (by omega) (by omega)]; omega), if_pos (by rw [show (57 : Int32) = nI 57 from rfl, pn_lt (by omega) (by omega)]; omega)]
    · rw [if_neg q2, if_neg q2]
      exact ⟨Or.inl (by rw [pn_le (by omega) (by omega)]; omega), by unfold f_X9_isIn; decide⟩
/-- a number of at most d digits, as argument g -/
theorem rd_num (hT : pTx n T M0 N0) (h : pRd n M0 N0 M N p m k v g) (hg : g < 3) {d : Nat} (hd1 : 1 ≤ d) (hd : d ≤ 3) : q_X9_isNumber N (nI d) (nI (4 * m + 1 + g)) ∧ ∃ (M' N' : tvM) (b : Int32) (p' : Nat), f_X5_readNumber M (nI g) (nI d) = (b, M') ∧ f_X9_isNumber N (nI d) (nI (4 * m + 1 + g)) = (b, N') ∧ pRd n M0 N0 M' N' p' m k v (g + 1) ∧ p ≤ p' ∧ (b = 0 ∨ b = 1) := by
  have hn := hT.1
  have hp := h.1.2.2.1
  have hm := h.1.2.2.2.2.2
  have hK := pnD_le n T d p
  have hin := pnD_in n T d p
  have hend := pnD_end n T d p
  generalize pnD n T d p = K at hK hin hend
  have hpos : p + K ≤ n := by
    by_cases q : K = 0
    · omega
    · have := (hin (K - 1) (by omega)).1
      omega
  have hst : ∀ i, i ≤ K → pRd n M0 N0 (tpi M 243 2 (nI (p + i))) (tpi N 249 16 (nI (p + i))) (p + i) m k v g := fun i hi => pRd_pos h (by omega)
  have hv1 : ∀ i, i < K → nI (pnU T p i) * 10 + (nI (T (p + i)) - 48) = nI (pnU T p (i + 1)) := fun i hi => by
    obtain ⟨_, c1, _⟩ := hin i hi
    rw [show (48 : Int32) = nI 48 from rfl, pn_sub c1, show (10 : Int32) = nI 10 from rfl, pn_mul, nI_add, Nat.mul_comm]
    rfl
  have hv2 : ∀ i, i < K → 10 * nI (pnU T p i) + nI (T (p + i)) - 48 = nI (pnU T p (i + 1)) := fun i hi => by
    obtain ⟨_, c1, _⟩ := hin i hi
    rw [show (48 : Int32) = nI 48 from rfl, show (10 : Int32) = nI 10 from rfl, pn_mul, nI_add, pn_sub (by omega)]
    show nI _ = nI (10 * pnU T p i + (T (p + i) - 48))
    congr 1
    omega
  obtain ⟨b, hb⟩ : ∃ z : Int32, z = if K = 0 then 0 else 1 := ⟨_, rfl⟩
  have eb : (if nI K ≤ 0 then (0 : Int32) else 1) = b := by
    rw [hb]
    by_cases q : K = 0
    · rw [if_pos (by rw [q]; decide), if_pos q]
    · rw [if_neg (by rw [pl_0, pn_le (by omega) (by omega)]; omega), if_neg q]
  have cls : ∀ r i, i + r = d → i ≤ K → tvRn (nI g) (nI d) r i (nI (pnU T p i)) (tpi M 243 2 (nI (p + i))) = (b, f_X5_setArgument (tpi M 243 2 (nI (p + K))) (nI g) (nI (pnU T p K))) := by
    intro r
    induction r with
    | zero =>
      intro i e hi
      have : i = K := by omega
      subst this
      show ((if nI i ≤ 0 then (0 : Int32) else 1), _) = _
      rw [eb]
    | succ r ih =>
      intro i e hi
      obtain ⟨d1, d2⟩ := rd_dig hT (hst i hi)
      show (if tgi (tpi M 243 2 (nI (p + i))) 243 1 ≤ tgi (tpi M 243 2 (nI (p + i))) 243 2 ∨ f_X5_isDigit (tpi M 243 2 (nI (p + i))) (f_X5_sign (tpi M 243 2 (nI (p + i)))) = 0 then ((if nI i ≤ 0 then (0 : Int32) else 1), _) else tvRn (nI g) (nI d) r (i + 1) (nI (pnU T p i) * 10 + (f_X5_sign (tpi M 243 2 (nI (p + i))) - 48)) (tpi (tpi M 243 2 (nI (p + i))) 243 2 (tgi (tpi M 243 2 (nI (p + i))) 243 2 + 1))) = _
      by_cases q : i = K
      · subst q
        rw [if_pos (d2 (hend (by omega))).1, eb]
      · obtain ⟨z1, z2, z3, z4⟩ := d1 (hin i (by omega))
        rw [if_neg (by rintro (y | y); exact z4 y; rw [z2] at y; exact p10 y), z1, hv1 i (by omega), show tgi (tpi M 243 2 (nI (p + i))) 243 2 = nI (p + i) from tpi_s _ _ _ _, nI_1, tpi_tpi]
        exact ih (i + 1) (by omega) (by omega)
  have ec : f_X5_readNumber M (nI g) (nI d) = (b, tpi (tpi M 243 2 (nI (p + K))) 246 (3 * m + g) (nI (pnU T p K))) := by
    have := cls d 0 (by omega) (by omega)
    rw [Nat.add_zero, tpi_same M 243 2 h.1.1, rd_setArg (hst K (Nat.le_refl _)) hg] at this
    unfold f_X5_readNumber
    rw [pn_c (by omega)]
    exact this
  have vpi : vp_in (nI (4 * m + 1 + g)) 124 := vp_in_nI (by omega) (by omega)
  have hq : ∀ i y, i ≤ K → qs_X9_isNumber (nI d) (nI (4 * m + 1 + g)) (y, nI i, tpi N 249 16 (nI (p + i))) := fun i y hi => by
    have hnow := (rd_now hT (hst i hi)).1
    unfold qs_X9_isNumber qb_X9_isNumber
    exact ⟨fun _ => ⟨vpi, fun _ => trivial, fun _ => trivial⟩, fun _ => ⟨hnow, fun _ => ⟨vpi, fun _ => trivial, fun _ => trivial⟩, fun _ => ⟨hnow, trivial⟩⟩⟩
  have he' : e_X9_isNumber N (nI d) (nI (4 * m + 1 + g)) = .inl (nI (pnU T p 0), nI 0, tpi N 249 16 (nI (p + 0))) := by
    unfold e_X9_isNumber
    rw [Nat.add_zero, tpi_same N 249 16 h.1.2.1]
    rfl
  have emp : ∀ X : tvM, (if nI K ≤ 0 then (Sum.inr ((0 : Int32), X) : (Int32 × Int32 × tvM) ⊕ (Int32 × tvM)) else Sum.inr (1, X)) = Sum.inr (b, X) := fun X => by
    rw [← eb]
    by_cases q : nI K ≤ 0
    · rw [if_pos q, if_pos q]
    · rw [if_neg q, if_neg q]
  have fin : pEnd (s_X9_isNumber (nI d) (nI (4 * m + 1 + g))) (qs_X9_isNumber (nI d) (nI (4 * m + 1 + g))) 1 (.inl (nI (pnU T p K), nI K, tpi N 249 16 (nI (p + K)))) (b, tpi (tpi N 249 16 (nI (p + K))) 256 (4 * m + 1 + g) (nI (pnU T p K))) := by
    refine pEnd_1 (y := .inr (b, tpi (tpi N 249 16 (nI (p + K))) 256 (4 * m + 1 + g) (nI (pnU T p K)))) ?_ (hq _ _ (Nat.le_refl _)) (pEnd_r 0 _)
    unfold s_X9_isNumber sb_X9_isNumber
    simp only []
    rw [pn_c (by omega), emp]
    by_cases q : K = d
    · rw [if_pos (by rw [pn_le (by omega) (by omega)]; omega)]
    · rw [if_neg (by rw [pn_le (by omega) (by omega)]; omega), ((rd_dig hT (hst K (Nat.le_refl _))).2 (hend (by omega))).2, if_pos (show nI 0 = 0 from rfl)]
  have l0 := pEnd_n (step := s_X9_isNumber (nI d) (nI (4 * m + 1 + g))) (qs := qs_X9_isNumber (nI d) (nI (4 * m + 1 + g))) (fun i => (nI (pnU T p i), nI i, tpi N 249 16 (nI (p + i)))) K (fun i hi => by
    obtain ⟨c1, c2, c3⟩ := hin i hi
    obtain ⟨z1, z2, z3, z4⟩ := (rd_dig hT (hst i (by omega))).1 (hin i hi)
    have hnow := (rd_now hT (hst i (by omega))).2
    rw [if_pos c1] at hnow
    unfold s_X9_isNumber sb_X9_isNumber
    simp only []
    rw [if_neg (by rw [pn_le (by omega) (by omega)]; omega), z3, if_neg (show ¬ nI 1 = 0 by decide), hnow, hv2 i hi, nI_1, show tgi (tpi N 249 16 (nI (p + i))) 249 16 = nI (p + i) from tpi_s _ _ _ _, nI_1, tpi_tpi]
    rfl) (fun i hi => hq i _ (by omega)) fin
  rw [← he'] at l0
  have l1 := pEnd_to (F' := 5000) l0 (by omega)
  refine ⟨⟨trivial, ⟨_, l1.1⟩, l1.2⟩, _, _, b, p + K, ec, pGet l1.1, pRd_arg (hst K (Nat.le_refl _)) _, by omega, ?_⟩
  rw [hb]
  by_cases q : K = 0
  · rw [if_pos q]; exact Or.inl rfl
  · rw [if_neg q]; exact Or.inr rfl
/-! verbs -/
def pmx (f : Nat → Nat) : Nat → Nat
  | 0 => 0
  | i + 1 => max (pmx f i) (f i)
theorem rd_max (hT : pTx n T M0 N0) (h : pRd n M0 N0 M N p m k v g) : ∀ i, i ≤ 9 → tvRvL M i = nI (pmx (fun i => pcp n T (pWl i) p) i) ∧ pmx (fun i => pcp n T (pWl i) p) i < 60 := by
  intro i
  induction i with
  | zero => intro _; exact ⟨rfl, by show 0 < 60; omega⟩
  | succ i ih =>
    intro hi
    obtain ⟨a1, a2⟩ := ih (by omega)
    have hw := pWl_wd (i := i) (by omega)
    have hl := pcp_le n T (pWl i) p
    have h60 := hw.2.1
    have ec := rd_count hT h hw
    constructor
    · show f_J9_max_7cf53 M (tvRvL M i) (f_X5_countSame M (f_X5_wordOf (nI i))) = nI (max (pmx (fun i => pcp n T (pWl i) p) i) (pcp n T (pWl i) p))
      rw [a1, ec]
      generalize pmx (fun i => pcp n T (pWl i) p) i = x at a2
      generalize pcp n T (pWl i) p = y at hl
      unfold f_J9_max_7cf53
      first
        | (by_cases q : x < y
           · rw [if_pos (by rw [pn_lt (by omega) (by omega)]; exact q), Nat.max_eq_right (by omega)]
           · rw [if_neg (by rw [pn_lt (by omega) (by omega)]; exact q), Nat.max_eq_left (by omega)])
        | (by_cases q : y < x
           · rw [if_pos (by rw [pn_lt (by omega) (by omega)]; exact q), Nat.max_eq_left (by omega)]
           · rw [if_neg (by rw [pn_lt (by omega) (by omega)]; exact q), Nat.max_eq_right (by omega)])
    · show max (pmx (fun i => pcp n T (pWl i) p) i) (pcp n T (pWl i) p) < 60
      omega
theorem rd_vp (hT : pTx n T M0 N0) (h : pRd n M0 N0 M N p m k v g) {i : Nat} (hi : i < 9) : tvRvP M i = decide (pcp n T (pWl i) p = (pWl i).length) := by
  have hw := pWl_wd hi
  have hl := pcp_le n T (pWl i) p
  have h60 := hw.2.1
  unfold tvRvP
  rw [rd_count hT h hw, decide_eq_decide]
  unfold f_J0_length_8abf5
  rw [hw.1]
  exact pn_eq (by omega) (by omega)
theorem rd_verb1 (hT : pTx n T M0 N0) (h : pRd n M0 N0 M N p m k v g) {o : Nat} (ho : o < 9) (h1 : pcp n T (pWl o) p = (pWl o).length) (h2 : ∀ i, i < o → pcp n T (pWl i) p ≠ (pWl i).length) : f_X5_readVerb M = (nI o, tpi M 243 2 (nI (p + (pWl o).length))) := by
  have e : fa_first (tvRvP M) 9 = o := fa_first_eq (by omega) (fun i hi => by rw [rd_vp hT h (by omega), decide_eq_false (h2 i hi)]) (fun _ => by rw [rd_vp hT h ho, decide_eq_true h1])
  unfold f_X5_readVerb
  rw [e, if_pos ho, rd_count hT h (pWl_wd ho), h1, show tgi M 243 2 = nI p from h.1.1, nI_add]
theorem rd_verb0 (hT : pTx n T M0 N0) (h : pRd n M0 N0 M N p m k v g) (h2 : ∀ i, i < 9 → pcp n T (pWl i) p ≠ (pWl i).length) : f_X5_readVerb M = (-1, tpi M 243 2 (nI (p + pmx (fun i => pcp n T (pWl i) p) 9))) := by
  have e : fa_first (tvRvP M) 9 = 9 := fa_first_eq (by omega) (fun i hi => by rw [rd_vp hT h (by omega), decide_eq_false (h2 i hi)]) (fun q => absurd q (by omega))
  unfold f_X5_readVerb
  rw [e, if_neg (by omega), (rd_max hT h 9 (by omega)).1, show tgi M 243 2 = nI p from h.1.1, nI_add]
end

