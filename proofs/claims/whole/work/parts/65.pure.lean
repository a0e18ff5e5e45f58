/-! ===== reading the program text on both sides ===== -/
def pTx (n : Nat) (T : Nat → Nat) (M0 N0 : tvM) : Prop := n ≤ 60 ∧ M0.1 243 1 = nI n ∧ N0.1 249 15 = nI n ∧ ∀ k, k < n → T k < 65536 ∧ M0.1 244 k = nI (T k) ∧ N0.1 255 k = nI (T k)
/-- the model's letter of a verb, and how many numbers follow -/
def pLt (v : Nat) : Nat := [104, 98, 105, 116, 99, 112, 97, 108, 119].getD v 0
def pNa (v : Nat) : Nat := [1, 3, 2, 3, 3, 2, 1, 1, 1].getD v 0
def pCm (M N : tvM) (i : Nat) : Prop := ∃ v, v < 9 ∧ M.1 245 i = nI v ∧ N.1 256 (4 * i) = nI (pLt v) ∧ ∀ j, j < pNa v → M.1 246 (3 * i + j) = N.1 256 (4 * i + 1 + j)
theorem pNa_le (v : Nat) : pNa v ≤ 3 := by
  unfold pNa
  rcases (show v = 0 ∨ v = 1 ∨ v = 2 ∨ v = 3 ∨ v = 4 ∨ v = 5 ∨ v = 6 ∨ v = 7 ∨ v = 8 ∨ 9 ≤ v by omega) with rfl | rfl | rfl | rfl | rfl | rfl | rfl | rfl | rfl | h
  all_goals first | decide | skip
  rw [List.getD_eq_getElem?_getD, List.getElem?_eq_none (by simpa using h)]
  exact Nat.zero_le _
theorem pCm_c {M N M' N' : tvM} {i : Nat} (h : pCm M N i) (e1 : M'.1 245 i = M.1 245 i) (e2 : ∀ j, j < 3 → M'.1 246 (3 * i + j) = M.1 246 (3 * i + j)) (e3 : ∀ j, j < 4 → N'.1 256 (4 * i + j) = N.1 256 (4 * i + j)) : pCm M' N' i := by
  obtain ⟨v, v1, v2, v3, v4⟩ := h
  refine ⟨v, v1, e1.trans v2, (e3 0 (by omega)).trans v3, fun j hj => ?_⟩
  have := pNa_le v
  rw [e2 j (by omega), v4 j hj, Nat.add_assoc, e3 (1 + j) (by omega)]
def pRd (n : Nat) (M0 N0 M N : tvM) (p m k v g : Nat) : Prop :=
  (M.1 243 2 = nI p ∧ N.1 249 16 = nI p ∧ p ≤ n ∧ M.1 243 3 = nI m ∧ N.1 249 17 = nI k ∧ m ≤ 30) ∧
  ((∀ a j, a ≠ 245 → a ≠ 246 → ¬ (a = 243 ∧ 2 ≤ j ∧ j ≤ 3) → M.1 a j = M0.1 a j) ∧ M.2 = M0.2) ∧
  ((∀ a j, a ≠ 256 → ¬ (a = 249 ∧ 16 ≤ j ∧ j ≤ 17) → N.1 a j = N0.1 a j) ∧ N.2 = N0.2) ∧
  (∀ i, i < m → pCm M N i) ∧ (v < 9 → M.1 245 m = nI v ∧ N.1 256 (4 * m) = nI (pLt v)) ∧ ∀ j, j < g → M.1 246 (3 * m + j) = N.1 256 (4 * m + 1 + j)
theorem tpi_same (M : tvM) (a k : Nat) {v : Int32} (h : M.1 a k = v) : tpi M a k v = M := by
  refine Prod.ext ?_ rfl
  funext x j
  by_cases q : x = a
  · subst q
    by_cases q2 : j = k
    · subst q2
      exact (tpi_s M x j v).trans h.symm
    · exact tpi_k M x v q2
  · exact tpi_o M v j q
theorem tpi_tpi (M : tvM) (a k : Nat) (v w : Int32) : tpi (tpi M a k v) a k w = tpi M a k w := by
  refine Prod.ext ?_ rfl
  funext x j
  by_cases q : x = a
  · subst q
    by_cases q2 : j = k
    · subst q2
      exact (tpi_s _ x j w).trans (tpi_s M x j w).symm
    · exact (tpi_k _ x w q2).trans ((tpi_k _ x v q2).trans (tpi_k M x w q2).symm)
  · exact (tpi_o _ w j q).trans ((tpi_o _ v j q).trans (tpi_o M w j q).symm)
section
variable {n : Nat} {T : Nat → Nat} {M0 N0 M N : tvM} {p m k v g : Nat}
theorem pRd_pos (h : pRd n M0 N0 M N p m k v g) {p' : Nat} (hp : p' ≤ n) : pRd n M0 N0 (tpi M 243 2 (nI p')) (tpi N 249 16 (nI p')) p' m k v g := by
  obtain ⟨⟨h1, h2, h3, h4, h5, h6⟩, ⟨f1, f2⟩, ⟨f3, f4⟩, hc, hv, hg⟩ := h
  have oM : ∀ a j, ¬ (a = 243 ∧ j = 2) → (tpi M 243 2 (nI p')).1 a j = M.1 a j := fun a j q => by
    by_cases q1 : a = 243
    · subst q1
      exact tpi_k _ _ _ (by omega)
    · exact tpi_o _ _ j q1
  have oN : ∀ a j, ¬ (a = 249 ∧ j = 16) → (tpi N 249 16 (nI p')).1 a j = N.1 a j := fun a j q => by
    by_cases q1 : a = 249
    · subst q1
      exact tpi_k _ _ _ (by omega)
    · exact tpi_o _ _ j q1
  refine ⟨⟨tpi_s _ _ _ _, tpi_s _ _ _ _, hp, (oM _ _ (by omega)).trans h4, (oN _ _ (by omega)).trans h5, h6⟩, ⟨fun a j q1 q2 q3 => (oM a j (by omega)).trans (f1 a j q1 q2 q3), f2⟩, ⟨fun a j q1 q2 => (oN a j (by omega)).trans (f3 a j q1 q2), f4⟩, fun i hi => pCm_c (hc i hi) (oM _ _ (by omega)) (fun j _ => oM _ _ (by omega)) (fun j _ => oN _ _ (by omega)), fun q => ⟨(oM _ _ (by omega)).trans (hv q).1, (oN _ _ (by omega)).trans (hv q).2⟩, fun j hj => (oM _ _ (by omega)).trans ((hg j hj).trans (oN _ _ (by omega)).symm)⟩
theorem rd_len (hT : pTx n T M0 N0) (h : pRd n M0 N0 M N p m k v g) : tgi M 243 1 = nI n ∧ tgi M 243 2 = nI p ∧ tgi N 249 15 = nI n ∧ tgi N 249 16 = nI p := ⟨(h.2.1.1 243 1 (by omega) (by omega) (by omega)).trans hT.2.1, h.1.1, (h.2.2.1.1 249 15 (by omega) (by omega)).trans hT.2.2.1, h.1.2.1⟩
theorem rd_at (hT : pTx n T M0 N0) (h : pRd n M0 N0 M N p m k v g) {z : Nat} (hz : z < 2147483648) : f_X5_signAt M (nI z) = if z < n then nI (T z) else 0 := by
  obtain ⟨e1, e2, e3, e4⟩ := rd_len hT h
  have hn := hT.1
  unfold f_X5_signAt
  rw [e1, if_neg (pn_neg hz)]
  by_cases q : z < n
  · rw [if_neg (by rw [pn_le (by omega) hz]; omega), if_neg (by rw [pl_60, pn_le (by omega) hz]; omega), if_pos q, pn_c hz, show tgi M 244 z = nI (T z) from (h.2.1.1 244 z (by omega) (by omega) (by omega)).trans (hT.2.2.2 z q).2.1, pc_tnc _ (hT.2.2.2 z q).1]
  · rw [if_pos (by rw [pn_le (by omega) hz]; omega), if_neg q]
theorem rd_now (hT : pTx n T M0 N0) (h : pRd n M0 N0 M N p m k v g) : q_X9_now N ∧ f_X9_now N = if p < n then nI (T p) else -1 := by
  obtain ⟨e1, e2, e3, e4⟩ := rd_len hT h
  have hn := hT.1
  have hp := h.1.2.2.1
  unfold q_X9_now f_X9_now
  rw [e3, e4]
  refine ⟨⟨fun _ => trivial, fun _ => ⟨?_, trivial⟩⟩, ?_⟩
  · rename_i hq
    rw [pn_le (by omega) (by omega)] at hq
    exact vp_in_nI (by omega) (by omega)
  · by_cases q : p < n
    · rw [if_neg (by rw [pn_le (by omega) (by omega)]; omega), if_pos q, pn_c (by omega)]
      exact (h.2.2.1.1 255 p (by omega) (by omega)).trans (hT.2.2.2 p q).2.2
    · rw [if_pos (by rw [pn_le (by omega) (by omega)]; omega), if_neg q]
theorem pn_m1ne {c : Nat} (hc : c < 65536) : ¬ (-1 : Int32) = nI c := fun q => by
  have := congrArg Int32.toInt q
  rw [nI_toInt (by omega), show (-1 : Int32).toInt = -1 from by decide] at this
  omega
theorem rd_sign (hT : pTx n T M0 N0) (h : pRd n M0 N0 M N p m k v g) {c : Nat} (hc : c < 65536) (hc0 : c ≠ 0) : q_X9_isSign N (nI c) ∧ (p < n ∧ T p = c → f_X5_readSign M (nI c) = (1, tpi M 243 2 (nI (p + 1))) ∧ f_X9_isSign N (nI c) = (1, tpi N 249 16 (nI (p + 1)))) ∧ (¬ (p < n ∧ T p = c) → f_X5_readSign M (nI c) = (0, M) ∧ f_X9_isSign N (nI c) = (0, N)) := by
  obtain ⟨e1, e2, e3, e4⟩ := rd_len hT h
  obtain ⟨q1, n1⟩ := rd_now hT h
  have hn := hT.1
  have hp := h.1.2.2.1
  have es : f_X5_sign M = if p < n then nI (T p) else 0 := by
    unfold f_X5_sign
    rw [e2, rd_at hT h (by omega)]
  refine ⟨?_, fun q => ?_, fun q => ?_⟩
  · unfold q_X9_isSign
    first | exact ⟨q1, fun _ => trivial, fun _ => trivial⟩ | (simp; exact q1) | simp [q1]
  · unfold f_X5_readSign f_X9_isSign
    rw [e1, e2, es, n1, e4, if_pos q.1, if_neg (by rw [pn_le (by omega) (by omega)]; omega), if_pos q.1, if_pos (by rw [q.2]), if_pos (by rw [q.2]), nI_1]
    exact ⟨rfl, rfl⟩
  · unfold f_X5_readSign f_X9_isSign
    rw [e1, e2, es, n1, e4]
    have ez : nI p + 0 = nI p := Int32.add_zero _
    by_cases q2 : p < n
    · have : ¬ nI (T p) = nI c := by
        rw [pn_eq (by have := (hT.2.2.2 p q2).1; omega) (by omega)]
        exact fun e => q ⟨q2, e⟩
      rw [if_neg (by rw [pn_le (by omega) (by omega)]; omega), if_pos q2, if_pos q2, if_neg this, if_neg this, ez, tpi_same N 249 16 h.1.2.1]
      exact ⟨rfl, rfl⟩
    · rw [if_pos (by rw [pn_le (by omega) (by omega)]; omega), if_neg q2, if_neg (pn_m1ne hc), ez, tpi_same N 249 16 h.1.2.1]
      exact ⟨rfl, rfl⟩
/-- how much of a word stands at p -/
def pcp (n : Nat) (T : Nat → Nat) : List Nat → Nat → Nat
  | [], _ => 0
  | c :: r, p => if p < n ∧ T p = c then 1 + pcp n T r (p + 1) else 0
theorem pcp_le (n : Nat) (T : Nat → Nat) (w : List Nat) : ∀ p, pcp n T w p ≤ w.length := by
  induction w with
  | nil => intro p; exact Nat.le_refl _
  | cons c r ih =>
    intro p
    show (if p < n ∧ T p = c then 1 + pcp n T r (p + 1) else 0) ≤ r.length + 1
    have := ih (p + 1)
    split <;> omega
theorem pcp_in (n : Nat) (T : Nat → Nat) (w : List Nat) : ∀ p i, i < pcp n T w p → p + i < n ∧ T (p + i) = w.getD i 0 := by
  induction w with
  | nil => intro p i hi; exact absurd hi (by show ¬ i < 0; omega)
  | cons c r ih =>
    intro p i hi
    have hi' : i < (if p < n ∧ T p = c then 1 + pcp n T r (p + 1) else 0) := hi
    by_cases q : p < n ∧ T p = c
    · rw [if_pos q] at hi'
      cases i with
      | zero => exact ⟨q.1, q.2⟩
      | succ i =>
        have := ih (p + 1) i (by omega)
        rw [show p + (i + 1) = p + 1 + i by omega]
        exact this
    · rw [if_neg q] at hi'
      omega
theorem pcp_end (n : Nat) (T : Nat → Nat) (w : List Nat) : ∀ p, pcp n T w p < w.length → ¬ (p + pcp n T w p < n ∧ T (p + pcp n T w p) = w.getD (pcp n T w p) 0) := by
  induction w with
  | nil => intro p hi; exact absurd hi (by show ¬ 0 < 0; omega)
  | cons c r ih =>
    intro p hi
    have e : pcp n T (c :: r) p = (if p < n ∧ T p = c then 1 + pcp n T r (p + 1) else 0) := rfl
    by_cases q : p < n ∧ T p = c
    · rw [if_pos q] at e
      rw [e] at hi ⊢
      have := ih (p + 1) (by simp at hi; omega)
      rw [show p + (1 + pcp n T r (p + 1)) = p + 1 + pcp n T r (p + 1) by omega, show 1 + pcp n T r (p + 1) = pcp n T r (p + 1) + 1 by omega]
      exact this
    · rw [if_neg q] at e
      rw [e]
      exact q
theorem fa_first_eq {f : Nat → Bool} {K m : Nat} (h1 : m ≤ K) (h2 : ∀ i, i < m → f i = false) (h3 : m < K → f m = true) : fa_first f K = m := by
  have a1 := fa_first_le f K
  have a2 := fa_first_no f K
  have a3 := fa_first_yes f K
  apply Classical.byContradiction
  intro ne
  by_cases q : fa_first f K < m
  · have := a3 (by omega)
    rw [h2 _ q] at this
    exact absurd this (by decide)
  · have := a2 m (by omega)
    rw [h3 (by omega)] at this
    exact absurd this (by decide)
/-- word x is the list w -/
def pWd (x : Nat) (w : List Nat) : Prop := tvLen.getD x 0 = w.length ∧ w.length < 60 ∧ ∀ i, i < w.length → f_J0_charAt_5068e x (nI i) = nI (w.getD i 0) ∧ w.getD i 0 < 65536 ∧ w.getD i 0 ≠ 0
theorem rd_count (hT : pTx n T M0 N0) (h : pRd n M0 N0 M N p m k v g) {x : Nat} {w : List Nat} (hw : pWd x w) : f_X5_countSame M x = nI (pcp n T w p) := by
  obtain ⟨e1, e2, e3, e4⟩ := rd_len hT h
  obtain ⟨w1, w2, w3⟩ := hw
  have hn := hT.1
  have hp := h.1.2.2.1
  have hle := pcp_le n T w p
  unfold f_X5_countSame
  rw [w1]
  congr 1
  refine fa_first_eq hle (fun i hi => ?_) (fun hlt => ?_)
  · obtain ⟨c1, c2⟩ := pcp_in n T w p i hi
    unfold tvCsP
    rw [e1, e2, nI_add, rd_at hT h (by omega), if_pos c1, (w3 i (by omega)).1, c2]
    have : ¬ nI n ≤ nI (p + i) := by rw [pn_le (by omega) (by omega)]; omega
    simp [this]
  · have ce := pcp_end n T w p hlt
    generalize pcp n T w p = z at hle hlt ce
    unfold tvCsP
    rw [e1, e2, nI_add, rd_at hT h (by omega), (w3 z hlt).1]
    by_cases q : p + z < n
    · have : ¬ nI (T (p + z)) = nI (w.getD z 0) := by
        rw [pn_eq (by have := (hT.2.2.2 _ q).1; omega) (by have := (w3 z hlt).2.1; omega)]
        exact fun e => ce ⟨q, e⟩
      rw [if_pos q, decide_eq_false this]
      simp
    · have : nI n ≤ nI (p + z) := by rw [pn_le (by omega) (by omega)]; omega
      simp [this]
theorem rd_word (hT : pTx n T M0 N0) (h : pRd n M0 N0 M N p m k v g) {x : Nat} {w : List Nat} (hw : pWd x w) : q_X9_isWord N x ∧ f_X9_isWord N x = (if pcp n T w p = w.length then 1 else 0, tpi N 249 16 (nI (p + pcp n T w p))) := by
  obtain ⟨w1, w2, w3⟩ := hw
  have hn := hT.1
  have hp := h.1.2.2.1
  have hle := pcp_le n T w p
  have hpos : p + pcp n T w p ≤ n := by
    by_cases q : pcp n T w p = 0
    · omega
    · have := (pcp_in n T w p (pcp n T w p - 1) (by omega)).1
      omega
  have hlen : f_J0_length_8abf5 x = nI w.length := by
    unfold f_J0_length_8abf5
    rw [w1]
  have hst : ∀ i, i ≤ pcp n T w p → pRd n M0 N0 (tpi M 243 2 (nI (p + i))) (tpi N 249 16 (nI (p + i))) (p + i) m k v g := fun i hi => pRd_pos h (by omega)
  have he' : e_X9_isWord N x = .inl (nI 0, tpi N 249 16 (nI (p + 0))) := by
    unfold e_X9_isWord
    rw [Nat.add_zero, tpi_same N 249 16 h.1.2.1]
    rfl
  have hq : ∀ i, i ≤ pcp n T w p → qs_X9_isWord x (nI i, tpi N 249 16 (nI (p + i))) := fun i hi => by
    unfold qs_X9_isWord qb_X9_isWord
    simp only []
    rw [hlen, w1]
    refine ⟨fun _ => trivial, fun hn => ?_⟩
    rw [pn_le (by omega) (by omega)] at hn
    have hs := rd_sign hT (hst i hi) (w3 i (by omega)).2.1 (w3 i (by omega)).2.2
    rw [(w3 i (by omega)).1]
    exact ⟨vp_in_nI (by omega) (by omega), hs.1, fun _ => trivial, fun _ => trivial⟩
  have fin : pEnd (s_X9_isWord x) (qs_X9_isWord x) 1 (.inl (nI (pcp n T w p), tpi N 249 16 (nI (p + pcp n T w p)))) ((if pcp n T w p = w.length then 1 else 0), tpi N 249 16 (nI (p + pcp n T w p))) := by
    refine pEnd_1 (y := .inr ((if pcp n T w p = w.length then 1 else 0), tpi N 249 16 (nI (p + pcp n T w p)))) ?_ (hq _ (Nat.le_refl _)) (pEnd_r 0 _)
    unfold s_X9_isWord sb_X9_isWord
    simp only []
    rw [hlen]
    by_cases q : pcp n T w p = w.length
    · rw [if_pos (by rw [pn_le (by omega) (by omega)]; omega), if_pos q]
    · rw [if_neg (by rw [pn_le (by omega) (by omega)]; omega), if_neg q, (w3 _ (by omega)).1]
      have hs := rd_sign hT (hst _ (Nat.le_refl _)) (w3 (pcp n T w p) (by omega)).2.1 (w3 _ (by omega)).2.2
      rw [(hs.2.2 (pcp_end n T w p (by omega))).2, if_pos rfl]
  have l0 := pEnd_n (step := s_X9_isWord x) (qs := qs_X9_isWord x) (fun i => (nI i, tpi N 249 16 (nI (p + i)))) (pcp n T w p) (fun i hi => by
    obtain ⟨c1, c2⟩ := pcp_in n T w p i hi
    unfold s_X9_isWord sb_X9_isWord
    simp only []
    have hs := rd_sign hT (hst i (by omega)) (w3 i (by omega)).2.1 (w3 i (by omega)).2.2
    rw [hlen, if_neg (by rw [pn_le (by omega) (by omega)]; omega), (w3 i (by omega)).1, (hs.2.1 ⟨c1, c2⟩).2, if_neg p10, nI_1, tpi_tpi]
    rfl) (fun i hi => hq i (by omega)) fin
  rw [← he'] at l0
  have l1 := pEnd_to (F' := 5000) l0 (by omega)
  exact ⟨⟨trivial, ⟨_, l1.1⟩, l1.2⟩, pGet l1.1⟩
end

