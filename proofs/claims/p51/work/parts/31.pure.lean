/-! ===== the model's primitives over its picture ===== -/
theorem px_ix {i w : Nat} (hi : i < 10) (hw : w < 13) : ((36 : Int32) + (13 * nI i) + nI w).toNatClampNeg = 36 + 13 * i + w := by
  rw [pl_36, show (13 : Int32) = nI 13 from rfl, pn_mul, nI_add, nI_add, pn_c (by omega)]
theorem px_qix {i w : Nat} (hi : i < 10) (hw : w < 13) : vp_in ((36 : Int32) + (13 * nI i) + nI w) 202 := by
  rw [pl_36, show (13 : Int32) = nI 13 from rfl, pn_mul, nI_add, nI_add]
  exact vp_in_nI (by omega) (by omega)
theorem px_of (M : tvM) (s : Nat → Nat) (t : Int32) {i w : Nat} (hi : i < 10) (hw : w < 13) : f_X9_of (puN M s t) (nI i) (nI w) = nI (s (36 + 13 * i + w)) := by
  unfold f_X9_of
  rw [px_ix hi hw, puN_g]
theorem px_qof (M : tvM) {i w : Nat} (hi : i < 10) (hw : w < 13) : q_X9_of M (nI i) (nI w) := ⟨px_qix hi hw, trivial⟩
theorem px_sets (M : tvM) (s : Nat → Nat) (t : Int32) {i w : Nat} (v : Nat) (hi : i < 10) (hw : w < 13) : f_X9_sets (puN M s t) (nI i) (nI w) (nI v) = puN M (pun s (36 + 13 * i + w) v) t := by
  unfold f_X9_sets
  rw [px_ix hi hw, puN_p]
theorem px_qsets (M : tvM) {i w : Nat} (v : Int32) (hi : i < 10) (hw : w < 13) : q_X9_sets M (nI i) (nI w) v := ⟨px_qix hi hw, trivial⟩
theorem px_ixh {i w : Nat} (hi : i < 8) (hw : w < 3) : ((12 : Int32) + (3 * nI i) + nI w).toNatClampNeg = 12 + 3 * i + w := by
  rw [pl_12, pl_3, pn_mul, nI_add, nI_add, pn_c (by omega)]
theorem px_qixh {i w : Nat} (hi : i < 8) (hw : w < 3) : vp_in ((12 : Int32) + (3 * nI i) + nI w) 202 := by
  rw [pl_12, pl_3, pn_mul, nI_add, nI_add]
  exact vp_in_nI (by omega) (by omega)
theorem px_ofh (M : tvM) (s : Nat → Nat) (t : Int32) {i w : Nat} (hi : i < 8) (hw : w < 3) : f_X9_ofHolder (puN M s t) (nI i) (nI w) = nI (s (12 + 3 * i + w)) := by
  unfold f_X9_ofHolder
  rw [px_ixh hi hw, puN_g]
theorem px_qofh (M : tvM) {i w : Nat} (hi : i < 8) (hw : w < 3) : q_X9_ofHolder M (nI i) (nI w) := ⟨px_qixh hi hw, trivial⟩
theorem px_seth (M : tvM) (s : Nat → Nat) (t : Int32) {i w : Nat} (v : Nat) (hi : i < 8) (hw : w < 3) : f_X9_setsHolder (puN M s t) (nI i) (nI w) (nI v) = puN M (pun s (12 + 3 * i + w) v) t := by
  unfold f_X9_setsHolder
  rw [px_ixh hi hw, puN_p]
theorem px_qseth (M : tvM) {i w : Nat} (v : Int32) (hi : i < 8) (hw : w < 3) : q_X9_setsHolder M (nI i) (nI w) v := ⟨px_qixh hi hw, trivial⟩
theorem px_thr1 (M : tvM) (s : Nat → Nat) (t k : Int32) : f_X9_isThrown (puN M s t) (nI 1) k = (nI 1, puN M s k) := by
  unfold f_X9_isThrown
  rw [if_neg (by decide), puN_pt]
theorem px_thr0 (M : tvM) (s : Nat → Nat) (t k : Int32) : f_X9_isThrown (puN M s t) (nI 0) k = (nI 0, puN M s (nI 0)) := by
  unfold f_X9_isThrown
  rw [if_pos (by decide)]
  show (nI 0, tpi (puN M s t) 249 5 (nI 0)) = _
  rw [puN_pt]
theorem px_qthr1 (M : tvM) (k : Int32) : q_X9_isThrown M (nI 1) k := ⟨fun _ => ⟨rfl, trivial⟩, fun _ => ⟨rfl, trivial⟩⟩
theorem px_qthr0 (M : tvM) (k : Int32) : q_X9_isThrown M (nI 0) k := ⟨fun _ => ⟨rfl, trivial⟩, fun _ => ⟨rfl, trivial⟩⟩
theorem px_in1 (M : tvM) {x lo hi : Nat} (h1 : lo ≤ x) (h2 : x ≤ hi) (hh : hi < 2147483648) : f_X9_isIn M (nI x) (nI lo) (nI hi) = nI 1 := by
  unfold f_X9_isIn
  rw [if_neg (by rw [pn_lt (by omega) (by omega)]; omega), if_neg (by rw [pn_lt (by omega) (by omega)]; omega)]; rfl
theorem px_in0 (M : tvM) {x lo hi : Nat} (h : x < lo ∨ hi < x) (hx : x < 2147483648) (hl : lo < 2147483648) (hh : hi < 2147483648) : f_X9_isIn M (nI x) (nI lo) (nI hi) = nI 0 := by
  unfold f_X9_isIn
  rcases h with h | h
  · rw [if_pos (by rw [pn_lt (by omega) (by omega)]; omega)]; rfl
  · by_cases h2 : x < lo
    · rw [if_pos (by rw [pn_lt (by omega) (by omega)]; omega)]; rfl
    · rw [if_neg (by rw [pn_lt (by omega) (by omega)]; omega), if_pos (by rw [pn_lt (by omega) (by omega)]; omega)]; rfl
theorem pn_neg_lt {x : Int32} (h : x < 0) {n : Nat} (hn : n < 2147483648) : x < nI n := by
  rw [Int32.lt_iff_toInt_lt] at h ⊢
  rw [nI_toInt hn]
  have : (0 : Int32).toInt = 0 := by decide
  omega
theorem px_inN (M : tvM) {x y : Int32} {lo : Nat} (h : x < 0) (hl : lo < 2147483648) : f_X9_isIn M x (nI lo) y = nI 0 := by
  unfold f_X9_isIn
  rw [if_pos (pn_neg_lt h hl)]; rfl
theorem px_isIx (M : tvM) {x : Int32} {n : Nat} (hn : n ≤ 12) : f_X9_isIn M x 0 (nI n - 1) = if ∃ i, i < n ∧ x = nI i then nI 1 else nI 0 := by
  by_cases hx : x < 0
  · rw [if_neg]
    · exact px_inN (lo := 0) M hx (by omega)
    · rintro ⟨i, hi, rfl⟩
      exact pn_neg (by omega) hx
  · obtain ⟨j, hj, rfl⟩ := pn_nneg hx
    by_cases hn0 : n = 0
    · subst hn0
      rw [if_neg (by rintro ⟨i, hi, -⟩; omega)]
      unfold f_X9_isIn
      rw [if_neg (by rw [pl_0, pn_lt (by omega) (by omega)]; omega), if_pos]
      · rfl
      · have : nI 0 - 1 < 0 := by decide
        rw [Int32.lt_iff_toInt_lt] at this ⊢
        rw [nI_toInt hj]
        have : (0 : Int32).toInt = 0 := by decide
        omega
    · rw [pl_1, pn_sub (by omega), pl_0]
      by_cases h : j < n
      · rw [if_pos ⟨j, h, rfl⟩]
        exact px_in1 M (by omega) (by omega) (by omega)
      · rw [if_neg]
        · exact px_in0 M (Or.inr (by omega)) (by omega) (by omega) (by omega)
        · rintro ⟨i, hi, q⟩
          rw [pn_eq (by omega) (by omega)] at q
          omega
theorem px_isBox (M : tvM) (s : Nat → Nat) (t x : Int32) (h : s 10 ≤ 10) : f_X9_isBox (puN M s t) x = if ∃ i, i < s 10 ∧ x = nI i then nI 1 else nI 0 := by
  unfold f_X9_isBox
  rw [puN_g]
  exact px_isIx _ (by omega)
theorem px_isHolder (M : tvM) (s : Nat → Nat) (t x : Int32) (h : s 9 ≤ 8) : f_X9_isHolder (puN M s t) x = if ∃ i, i < s 9 ∧ x = nI i then nI 1 else nI 0 := by
  unfold f_X9_isHolder
  rw [puN_g]
  exact px_isIx _ (by omega)
theorem px_box1 (M : tvM) (s : Nat → Nat) (t : Int32) {i : Nat} (h : s 10 ≤ 10) (hi : i < s 10) : f_X9_isBox (puN M s t) (nI i) = nI 1 := by
  rw [px_isBox M s t _ h, if_pos ⟨i, hi, rfl⟩]
theorem px_box0 (M : tvM) (s : Nat → Nat) (t x : Int32) (h : s 10 ≤ 10) (hx : ¬ ∃ i, i < s 10 ∧ x = nI i) : f_X9_isBox (puN M s t) x = nI 0 := by
  rw [px_isBox M s t _ h, if_neg hx]
theorem px_hol1 (M : tvM) (s : Nat → Nat) (t : Int32) {i : Nat} (h : s 9 ≤ 8) (hi : i < s 9) : f_X9_isHolder (puN M s t) (nI i) = nI 1 := by
  rw [px_isHolder M s t _ h, if_pos ⟨i, hi, rfl⟩]
theorem px_hol0 (M : tvM) (s : Nat → Nat) (t x : Int32) (h : s 9 ≤ 8) (hx : ¬ ∃ i, i < s 9 ∧ x = nI i) : f_X9_isHolder (puN M s t) x = nI 0 := by
  rw [px_isHolder M s t _ h, if_neg hx]
theorem px_low (M : tvM) (s : Nat → Nat) (t : Int32) {T : Nat} (hT : T < 2147483648) (h1 : 0 < s 1) (h2 : s 1 < 2147483648) (h3 : s 2 < 2147483648) : f_X9_low (puN M s t) (nI T) = if T % s 1 < s 2 then nI 1 else nI 0 := by
  unfold f_X9_low
  simp only [puN_g, pn_rem hT h1 h2]
  have hm : T % s 1 < 2147483648 := Nat.lt_trans (Nat.mod_lt _ h1) h2
  by_cases h : T % s 1 < s 2
  · rw [if_neg (by rw [pn_le (by omega) (by omega)]; omega), if_pos h]; rfl
  · rw [if_pos (by rw [pn_le (by omega) (by omega)]; omega), if_neg h]; rfl
theorem px_qlow (M : tvM) (s : Nat → Nat) (t : Int32) {x : Int32} (h1 : 0 < s 1) (h2 : s 1 < 2147483648) : q_X9_low (puN M s t) x := by
  refine ⟨?_, fun _ => trivial, fun _ => trivial⟩
  rw [puN_g]
  exact nI_ne0 h1 h2
theorem px_rings (M : tvM) (s : Nat → Nat) (t : Int32) {n : Nat} (h : s 3 ≤ 99) (hn : n ≤ 99) : f_X9_rings (puN M s t) (nI n) = puN M (pun s 3 (min (s 3 + n) 99)) t := by
  unfold f_X9_rings
  simp only [puN_g, nI_add]
  by_cases h1 : s 3 + n ≤ 99
  · rw [pl_99, if_pos (by rw [pn_le (by omega) (by omega)]; omega), puN_p, Nat.min_eq_left h1]
  · rw [pl_99, if_neg (by rw [pn_le (by omega) (by omega)]; omega), puN_p, Nat.min_eq_right (by omega)]
/-! ===== the class's primitives over its picture ===== -/
theorem pc_has1 (M : tvM) (b : Nat) {c : Nat → Nat → Int32} (l : Int64) {n i : Nat} (h : c 6 0 = nI n) (hn : n ≤ 10) (hi : i < n) : f_X0_has (puC M b c l) b (nI i) = 1 := by
  unfold f_X0_has
  simp only [puC_g6, h]
  rw [if_neg (pn_neg (by omega)), if_neg (by rw [pn_le (by omega) (by omega)]; omega), if_neg (by rw [pl_10, pn_le (by omega) (by omega)]; omega)]
theorem pc_has0 (M : tvM) (b : Nat) {c : Nat → Nat → Int32} (l : Int64) {n : Nat} {x : Int32} (h : c 6 0 = nI n) (hn : n ≤ 10) (hx : ¬ ∃ i, i < n ∧ x = nI i) : f_X0_has (puC M b c l) b x = 0 := by
  unfold f_X0_has
  simp only [puC_g6, h]
  by_cases h0 : x < 0
  · rw [if_pos h0]
  · obtain ⟨j, hj, rfl⟩ := pn_nneg h0
    rw [if_neg h0, if_pos]
    rw [pn_le (by omega) hj]
    exact Nat.not_lt.mp fun q => hx ⟨j, q, rfl⟩
theorem pc_hh1 (M : tvM) (b : Nat) {c : Nat → Nat → Int32} (l : Int64) {n i : Nat} (h : c 2 0 = nI n) (hn : n ≤ 8) (hi : i < n) : f_X2_has (puC M b c l) b (nI i) = 1 := by
  unfold f_X2_has
  simp only [puC_g2, h]
  rw [if_neg (pn_neg (by omega)), if_neg (by rw [pn_le (by omega) (by omega)]; omega), if_neg (by rw [pl_8, pn_le (by omega) (by omega)]; omega)]
theorem pc_hh0 (M : tvM) (b : Nat) {c : Nat → Nat → Int32} (l : Int64) {n : Nat} {x : Int32} (h : c 2 0 = nI n) (hn : n ≤ 8) (hx : ¬ ∃ i, i < n ∧ x = nI i) : f_X2_has (puC M b c l) b x = 0 := by
  unfold f_X2_has
  simp only [puC_g2, h]
  by_cases h0 : x < 0
  · rw [if_pos h0]
  · obtain ⟨j, hj, rfl⟩ := pn_nneg h0
    rw [if_neg h0, if_pos]
    rw [pn_le (by omega) hj]
    exact Nat.not_lt.mp fun q => hx ⟨j, q, rfl⟩
section PCX
variable (M : tvM) (b : Nat) {c : Nat → Nat → Int32} (l : Int64) {n i : Nat} (h : c 6 0 = nI n) (hn : n ≤ 10) (hi : i < n)
theorem pc_status (h : c 6 0 = nI n) (hn : n ≤ 10) (hi : i < n) : f_X0_statusOf (puC M b c l) b (nI i) = tnc (c 10 i) := by
  unfold f_X0_statusOf
  rw [pc_has1 M b l h hn hi, if_neg (by decide), pn_c (by omega), puC_g10]
theorem pc_since (h : c 6 0 = nI n) (hn : n ≤ 10) (hi : i < n) : f_X0_sinceOf (puC M b c l) b (nI i) = c 13 i := by
  unfold f_X0_sinceOf
  rw [pc_has1 M b l h hn hi, if_neg (by decide), pn_c (by omega), puC_g13]
theorem pc_first (h : c 6 0 = nI n) (hn : n ≤ 10) (hi : i < n) : f_X0_firstOf (puC M b c l) b (nI i) = c 11 i := by
  unfold f_X0_firstOf
  rw [pc_has1 M b l h hn hi, if_neg (by decide), pn_c (by omega), puC_g11]
theorem pc_rem (h : c 6 0 = nI n) (hn : n ≤ 10) (hi : i < n) : f_X0_remainingOf (puC M b c l) b (nI i) = c 12 i := by
  unfold f_X0_remainingOf
  rw [pc_has1 M b l h hn hi, if_neg (by decide), pn_c (by omega), puC_g12]
theorem pc_pearls (h : c 6 0 = nI n) (hn : n ≤ 10) (hi : i < n) : f_X0_pearlsIn (puC M b c l) b (nI i) = c 14 i := by
  unfold f_X0_pearlsIn
  rw [pc_has1 M b l h hn hi, if_neg (by decide), pn_c (by omega), puC_g14]
theorem pc_value (h : c 6 0 = nI n) (hn : n ≤ 10) (hi : i < n) {j : Nat} (hj : j < 5) : f_X0_valueOf (puC M b c l) b (nI i) (nI j) = c 15 (i * 5 + j) := by
  unfold f_X0_valueOf
  rw [pc_has1 M b l h hn hi, if_neg (by decide), if_neg (pn_neg (by omega)), if_pos (by rw [pl_5, pn_lt (by omega) (by omega)]; omega), pl_5, pn_mul, nI_add, pn_c (by omega), puC_g15]
theorem pc_setValue (h : c 6 0 = nI n) (hn : n ≤ 10) (hi : i < n) {j : Nat} (hj : j < 5) (v : Int32) : f_X0_setValue (puC M b c l) b (nI i) (nI j) v = puC M b (tvU c 15 (i * 5 + j) v) l := by
  unfold f_X0_setValue
  rw [pc_has1 M b l h hn hi, if_neg (by decide), if_neg (pn_neg (by omega)), if_neg (by rw [pl_5, pn_le (by omega) (by omega)]; omega), pl_5, pn_mul, nI_add, pn_c (by omega), puC_p15]
theorem pc_setPearls (h : c 6 0 = nI n) (hn : n ≤ 10) (hi : i < n) {m : Nat} (hm : m ≤ 5) : f_X0_setPearls (puC M b c l) b (nI i) (nI m) = (nI m, puC M b (tvU c 14 i (nI m)) l) := by
  unfold f_X0_setPearls
  rw [pc_has1 M b l h hn hi, if_neg (by decide), if_neg (pn_neg (by omega)), if_neg (by rw [pl_5, pn_lt (by omega) (by omega)]; omega), pn_c (by omega), puC_p14, pc_pearls M b l (c := tvU c 14 i (nI m)) (by rw [pcu_r _ _ _ _ (by decide)]; exact h) hn hi, pcu_s]
theorem pc_become (h : c 6 0 = nI n) (hn : n ≤ 10) (hi : i < n) (st t : Int32) : f_X0_become (puC M b c l) b st (nI i) t = puC M b (tvU (tvU c 10 i st) 13 i t) l := by
  unfold f_X0_become
  rw [pc_has1 M b l h hn hi, if_neg (by decide), pn_c (by omega), puC_p10, puC_p13]
theorem pc_half (h : c 6 0 = nI n) (hn : n ≤ 10) (hi : i < n) (x t : Int32) : f_X0_halfOpen (puC M b c l) b (nI i) x t = puC M b (tvU (tvU (tvU c 11 i x) 10 i 104) 13 i t) l := by
  unfold f_X0_halfOpen
  rw [pc_has1 M b l h hn hi, if_neg (by decide), pn_c (by omega), puC_p11, pc_become M b l (c := tvU c 11 i x) (by rw [pcu_r _ _ _ _ (by decide)]; exact h) hn hi]
theorem pc_start (h : c 6 0 = nI n) (hn : n ≤ 10) (hi : i < n) : f_X0_startDelay (puC M b c l) b (nI i) = puC M b (tvU (tvU c 10 i 112) 12 i (c 9 i)) l := by
  unfold f_X0_startDelay
  rw [pc_has1 M b l h hn hi, if_neg (by decide), pn_c (by omega), puC_p10, puC_g9, puC_p12, pcu_r _ _ _ _ (by decide)]
theorem pc_belongs (h : c 6 0 = nI n) (hn : n ≤ 10) (hi : i < n) (x : Int32) : f_X0_belongsTo (puC M b c l) b (nI i) x = if c 7 i = x then 1 else if c 8 i = x then 1 else 0 := by
  unfold f_X0_belongsTo
  rw [pc_has1 M b l h hn hi, if_neg (by decide), pn_c (by omega), puC_g7, puC_g8]
theorem pc_partner (h : c 6 0 = nI n) (hn : n ≤ 10) (hi : i < n) (x : Int32) : f_X0_partnerOf (puC M b c l) b (nI i) x = if c 7 i = x then c 8 i else c 7 i := by
  unfold f_X0_partnerOf
  rw [pc_has1 M b l h hn hi, if_neg (by decide), pn_c (by omega), puC_g7, puC_g8]
theorem pc_code (h : c 2 0 = nI n) (hn : n ≤ 8) (hi : i < n) : f_X2_codeOf (puC M b c l) b (nI i) = c 3 i := by
  unfold f_X2_codeOf
  rw [pc_hh1 M b l h hn hi, if_neg (by decide), pn_c (by omega), puC_g3]
theorem pc_att (h : c 2 0 = nI n) (hn : n ≤ 8) (hi : i < n) : f_X2_attemptsOf (puC M b c l) b (nI i) = c 4 i := by
  unfold f_X2_attemptsOf
  rw [pc_hh1 M b l h hn hi, if_neg (by decide), pn_c (by omega), puC_g4]
theorem pc_setCode (h : c 2 0 = nI n) (hn : n ≤ 8) (hi : i < n) (v : Int32) : f_X2_setCode (puC M b c l) b (nI i) v = puC M b (tvU c 3 i v) l := by
  unfold f_X2_setCode
  rw [pc_hh1 M b l h hn hi, if_neg (by decide), pn_c (by omega), puC_p3]
theorem pc_setAtt (h : c 2 0 = nI n) (hn : n ≤ 8) (hi : i < n) (v : Int32) : f_X2_setAttempts (puC M b c l) b (nI i) v = puC M b (tvU c 4 i v) l := by
  unfold f_X2_setAttempts
  rw [pc_hh1 M b l h hn hi, if_neg (by decide), pn_c (by omega), puC_p4]
theorem pc_lock (h : c 2 0 = nI n) (hn : n ≤ 8) (hi : i < n) (v : Int32) : f_X2_lock (puC M b c l) b (nI i) v = puC M b (tvU c 5 i v) l := by
  unfold f_X2_lock
  rw [pc_hh1 M b l h hn hi, if_neg (by decide), pn_c (by omega), puC_p5]
theorem pc_lockedFor (h : c 2 0 = nI n) (hn : n ≤ 8) (hi : i < n) {e T : Nat} (h5 : c 5 i = nI e) (he : e < 2147483648) (hT : T < 2147483648) : f_X2_lockedFor (puC M b c l) b (nI i) (nI T) = nI (e - T) := by
  unfold f_X2_lockedFor
  rw [pc_hh1 M b l h hn hi, if_neg (by decide), pn_c (by omega), puC_g5, h5]
  unfold f_J9_max_7cf53
  by_cases q : T ≤ e
  · rw [pn_sub q, if_neg (pn_neg (by omega))]
  · rw [if_pos]
    · rw [Nat.sub_eq_zero_of_le (by omega)]; rfl
    · rw [Int32.lt_iff_toInt_lt, Int32.toInt_sub, nI_toInt (by omega), nI_toInt (by omega), fb_bmod (by omega) (by omega)]
      have : (0 : Int32).toInt = 0 := by decide
      omega
end PCX
theorem pc_lowAt (M : tvM) (b : Nat) {c : Nat → Nat → Int32} (l : Int64) {T p q : Nat} (h1 : c 1 0 = nI p) (h2 : c 1 1 = nI q) (hT : T < 2147483648) (hp : 0 < p) (hp2 : p < 2147483648) (hq : q < 2147483648) : f_X7_isLowAt (puC M b c l) b (nI T) = if T % p < q then 1 else 0 := by
  unfold f_X7_isLowAt
  simp only [puC_g1, h1, h2]
  rw [if_neg (nI_nle hp hp2), pn_rem hT hp hp2]
  have hm : T % p < 2147483648 := Nat.lt_trans (Nat.mod_lt _ hp) hp2
  by_cases h : T % p < q
  · rw [if_neg (by rw [pn_le (by omega) (by omega)]; omega), if_pos h]
  · rw [if_pos (by rw [pn_le (by omega) (by omega)]; omega), if_neg h]
theorem pc_isLow (M : tvM) (b : Nat) {c : Nat → Nat → Int32} (l : Int64) {T p q : Nat} (h0 : c 0 4 = nI T) (h1 : c 1 0 = nI p) (h2 : c 1 1 = nI q) (hT : T < 2147483648) (hp : 0 < p) (hp2 : p < 2147483648) (hq : q < 2147483648) : f_X6_isLow (puC M b c l) b = if T % p < q then 1 else 0 := by
  unfold f_X6_isLow
  rw [puC_g0, h0]
  exact pc_lowAt M b l h1 h2 hT hp hp2 hq
theorem pc_alarm (M : tvM) (b : Nat) {c : Nat → Nat → Int32} (l : Int64) {A n : Nat} (h : c 0 5 = nI A) (hA : A ≤ 99) (hn : n ≤ 99) : f_X6_raiseAlarm (puC M b c l) b (nI n) = puC M b (tvU c 0 5 (nI (min (A + n) 99))) l := by
  unfold f_X6_raiseAlarm f_J9_min_7cf53
  rw [puC_g0, h, nI_add, pl_99]
  by_cases q : 99 < A + n
  · rw [if_pos (by rw [pn_lt (by omega) (by omega)]; omega), puC_p0, Nat.min_eq_right (by omega)]
  · rw [if_neg (by rw [pn_lt (by omega) (by omega)]; omega), puC_p0, Nat.min_eq_left (by omega)]
/-- what a char row keeps of the four signs -/
theorem pc_tnc (x : Nat) (h : x < 65536) : tnc (nI x) = nI x := fb_char h
theorem pc_chr (x : Nat) (h : x < 65536) : ((nI x).toUInt32 % 65536).toInt32 = nI x := by
  rw [← tnc_eq]
  exact pc_tnc x h

