/-! ===== the relation between the model's row s and the class's block (c, l) ===== -/
def psm (f : Nat → Nat) : Nat → Nat
  | 0 => 0
  | n + 1 => psm f n + f n
/-- the worth of box i, of all boxes -/
def pWo (s : Nat → Nat) (i : Nat) : Nat := psm (fun j => s (36 + 13 * i + (8 + j))) (s (36 + 13 * i + 7))
def pSu (s : Nat → Nat) : Nat := psm (pWo s) (s 10)
def pRh (s : Nat → Nat) (h : Nat) : Prop := s (12 + 3 * h + 1) ≤ 2 ∧ s (12 + 3 * h + 2) ≤ s 0 + 30 ∧ (s 9 ≤ h → s (12 + 3 * h + 1) = 0 ∧ s (12 + 3 * h + 2) = 0)
def pRx (s : Nat → Nat) (i : Nat) : Prop := s (36 + 13 * i + 2) ≤ 60 ∧ s (36 + 13 * i + 3) ≤ 3 ∧ s (36 + 13 * i + 5) ≤ s 0 ∧ s (36 + 13 * i + 6) ≤ 60 ∧ s (36 + 13 * i + 7) ≤ 5 ∧ (∀ j, j < 5 → s (36 + 13 * i + (8 + j)) ≤ 99) ∧ (s 10 ≤ i → s (36 + 13 * i + 3) = 0 ∧ s (36 + 13 * i + 7) = 0)
def pRe (s : Nat → Nat) (e : Nat) : Prop := s (166 + 3 * e) < 65536 ∧ s (166 + 3 * e + 2) < 10
/-- the bounds of the scalars -/
def pRs (B : Nat) (s : Nat → Nat) : Prop := s 0 ≤ B ∧ (60 ≤ s 1 ∧ s 1 ≤ 480) ∧ (10 ≤ s 2 ∧ s 2 ≤ s 1) ∧ s 3 ≤ 99 ∧ (s 4 ≤ B ∧ s 5 ≤ B) ∧ (s 6 ≤ 99 * B ∧ s 7 ≤ s 6) ∧ s 8 ≤ 10 * B ∧ s 9 ≤ 8 ∧ s 10 ≤ 10 ∧ s 11 ≤ 12 ∧ B ≤ 10000000
def pRb (B : Nat) (s : Nat → Nat) : Prop := (∀ k, s k < 2147483648) ∧ pRs B s ∧ (∀ h, h < 8 → pRh s h) ∧ (∀ i, i < 10 → pRx s i) ∧ (∀ e, e < 12 → pRe s e) ∧ s 6 = s 7 + pSu s
def pSt : Nat → Int32
  | 0 => 99
  | 1 => 104
  | 2 => 112
  | _ => 111
def pCh (c : Nat → Nat → Int32) (s : Nat → Nat) (h : Nat) : Prop := c 3 h = nI (s (12 + 3 * h + 0)) ∧ c 4 h = nI (s (12 + 3 * h + 1)) ∧ c 5 h = nI (s (12 + 3 * h + 2))
def pCx (c : Nat → Nat → Int32) (s : Nat → Nat) (i : Nat) : Prop := c 7 i = nI (s (36 + 13 * i + 0)) ∧ c 8 i = nI (s (36 + 13 * i + 1)) ∧ c 9 i = nI (s (36 + 13 * i + 2)) ∧ c 10 i = pSt (s (36 + 13 * i + 3)) ∧ (s (36 + 13 * i + 3) = 1 → c 11 i = nI (s (36 + 13 * i + 4))) ∧ ((s (36 + 13 * i + 3) = 1 ∨ s (36 + 13 * i + 3) = 3) → c 13 i = nI (s (36 + 13 * i + 5))) ∧ (s (36 + 13 * i + 3) = 2 → c 12 i = nI (s (36 + 13 * i + 6))) ∧ c 14 i = nI (s (36 + 13 * i + 7)) ∧ ∀ j, j < s (36 + 13 * i + 7) → c 15 (i * 5 + j) = nI (s (36 + 13 * i + (8 + j)))
def pCs (c : Nat → Nat → Int32) (l : Int64) (s : Nat → Nat) : Prop := c 0 4 = nI (s 0) ∧ c 0 5 = nI (s 3) ∧ c 0 6 = nI (s 4) ∧ c 0 7 = nI (s 5) ∧ l = lN (s 6 - s 7) ∧ c 1 0 = nI (s 1) ∧ c 1 1 = nI (s 2) ∧ c 2 0 = nI (s 9) ∧ c 6 0 = nI (s 10)
def pRc (c : Nat → Nat → Int32) (l : Int64) (s : Nat → Nat) : Prop := pCs c l s ∧ (∀ h, h < s 9 → pCh c s h) ∧ (∀ i, i < s 10 → pCx c s i) ∧ pCl c s
def pOk (B : Nat) (c : Nat → Nat → Int32) (l : Int64) (s : Nat → Nat) : Prop := pRb B s ∧ pRc c l s
/-- a command: refused with the same word, or done alike, or with a wrong code heard alike -/
def pSim (B : Nat) (c : Nat → Nat → Int32) (l : Int64) (s : Nat → Nat) (b : Nat) (ρ : tvM → Int32) (cf : tvM → Int32 × tvM) (hear : tvM → tvM) (mf : tvM → Int32 × tvM) (mq : tvM → Prop) (ex : List (Int32 × Nat)) (g : Prop) (lo : Nat) : Prop :=
  ∀ (M M1 M' : tvM) (t : Int32),
    (ρ (puC M b c l) = 0 ∧ ∃ (v : Nat) (c' : Nat → Nat → Int32) (l' : Int64) (s' : Nat → Nat), v < 65536 ∧ cf (puC M1 b c l) = (nI v, puC M1 b c' l') ∧ mq (puN M' s t) ∧ mf (puN M' s t) = (nI v, puN M' s' (nI 0)) ∧ pOk (B + 240) c' l' s' ∧ (g → ∀ z : Nat × Nat, pXi z s → pXi z s') ∧ lo ≤ v) ∨
    (∃ p ∈ ex, ρ (puC M b c l) = p.1 ∧ mq (puN M' s t) ∧ mf (puN M' s t) = (nI 0, puN M' s (nI p.2))) ∨
    (ρ (puC M b c l) = 4 ∧ ∃ (c' : Nat → Nat → Int32) (l' : Int64) (s' : Nat → Nat), hear (puC M1 b c l) = puC M1 b c' l' ∧ mq (puN M' s t) ∧ mf (puN M' s t) = (nI 0, puN M' s' (nI 4)) ∧ pOk (B + 240) c' l' s' ∧ (∀ z : Nat × Nat, pXi z s → pXi z s') ∧ s 3 ≤ s' 3)
/-! congruences -/
theorem psm_c {f g : Nat → Nat} {n : Nat} (h : ∀ i, i < n → f i = g i) : psm f n = psm g n := by
  induction n with
  | zero => rfl
  | succ n ih =>
    show psm f n + f n = psm g n + g n
    rw [ih fun i hi => h i (by omega), h n (by omega)]
theorem pRs.up {B B' : Nat} {s : Nat → Nat} (h : pRs B s) (hB : B ≤ B') (h1 : B' ≤ 10000000) : pRs B' s := by
  unfold pRs at h ⊢
  omega
theorem pWo_c {s s' : Nat → Nat} {i : Nat} (h7 : s' (36 + 13 * i + 7) = s (36 + 13 * i + 7)) (h8 : ∀ j, j < s (36 + 13 * i + 7) → s' (36 + 13 * i + (8 + j)) = s (36 + 13 * i + (8 + j))) : pWo s' i = pWo s i := by
  unfold pWo
  rw [h7]
  exact psm_c h8
/-- the same boxes -/
theorem pSu_c {s s' : Nat → Nat} (h10 : s' 10 = s 10) (hi : s 10 ≤ 10) (h : ∀ i, i < 10 → ∀ w, w < 13 → s' (36 + 13 * i + w) = s (36 + 13 * i + w)) (h7 : ∀ i, i < 10 → s (36 + 13 * i + 7) ≤ 5) : pSu s' = pSu s := by
  unfold pSu
  rw [h10]
  refine psm_c fun i hi' => pWo_c (h i (by omega) 7 (by omega)) fun j hj => h i (by omega) (8 + j) ?_
  have := h7 i (by omega)
  omega
theorem pRh_c {s s' : Nat → Nat} {h : Nat} (h0 : s 0 ≤ s' 0) (h9 : s 9 ≤ s' 9) (h1 : s' (12 + 3 * h + 1) = s (12 + 3 * h + 1)) (h2 : s' (12 + 3 * h + 2) = s (12 + 3 * h + 2)) (q : pRh s h) : pRh s' h := by
  unfold pRh at q ⊢
  rw [h1, h2]
  omega
theorem pRx_c {s s' : Nat → Nat} {i : Nat} (h0 : s 0 ≤ s' 0) (h10 : s 10 ≤ s' 10) (h : ∀ w, 2 ≤ w → w < 13 → s' (36 + 13 * i + w) = s (36 + 13 * i + w)) (q : pRx s i) : pRx s' i := by
  obtain ⟨q1, q2, q3, q4, q5, q6, q7⟩ := q
  unfold pRx
  rw [h 2 (by omega) (by omega), h 3 (by omega) (by omega), h 5 (by omega) (by omega), h 6 (by omega) (by omega), h 7 (by omega) (by omega)]
  refine ⟨q1, q2, by omega, q4, q5, fun j hj => ?_, fun h1 => q7 (by omega)⟩
  rw [h (8 + j) (by omega) (by omega)]
  exact q6 j hj
theorem pCh_c {c c' : Nat → Nat → Int32} {s s' : Nat → Nat} {h : Nat} (hc : ∀ p, 3 ≤ p → p ≤ 5 → c' p h = c p h) (hs : ∀ w, w < 3 → s' (12 + 3 * h + w) = s (12 + 3 * h + w)) (q : pCh c s h) : pCh c' s' h := by
  unfold pCh at q ⊢
  rw [hc 3 (by omega) (by omega), hc 4 (by omega) (by omega), hc 5 (by omega) (by omega), hs 0 (by omega), hs 1 (by omega), hs 2 (by omega)]
  exact q
theorem pCx_c {c c' : Nat → Nat → Int32} {s s' : Nat → Nat} {i : Nat} (h7 : s (36 + 13 * i + 7) ≤ 5) (hc : ∀ p, 7 ≤ p → p ≤ 14 → c' p i = c p i) (hc2 : ∀ j, j < 5 → c' 15 (i * 5 + j) = c 15 (i * 5 + j)) (hs : ∀ w, w < 13 → s' (36 + 13 * i + w) = s (36 + 13 * i + w)) (q : pCx c s i) : pCx c' s' i := by
  obtain ⟨q1, q2, q3, q4, q5, q6, q7, q8, q9⟩ := q
  unfold pCx
  rw [hc 7 (by omega) (by omega), hc 8 (by omega) (by omega), hc 9 (by omega) (by omega), hc 10 (by omega) (by omega), hc 11 (by omega) (by omega), hc 12 (by omega) (by omega), hc 13 (by omega) (by omega), hc 14 (by omega) (by omega), hs 0 (by omega), hs 1 (by omega), hs 2 (by omega), hs 3 (by omega), hs 4 (by omega), hs 5 (by omega), hs 6 (by omega), hs 7 (by omega)]
  refine ⟨q1, q2, q3, q4, q5, q6, q7, q8, fun j hj => ?_⟩
  rw [hc2 j (by omega), hs (8 + j) (by omega)]
  exact q9 j hj
theorem pCl_c {c c' : Nat → Nat → Int32} {s s' : Nat → Nat} (hc : ∀ p k, 16 ≤ p → p ≤ 19 → c' p k = c p k) (h11 : s' 11 = s 11) (hs : ∀ k, 166 ≤ k → s' k = s k) (q : pCl c s) : pCl c' s' := by
  obtain ⟨st, q1, q2, q3, q4⟩ := q
  refine ⟨st, q1, by rw [hc 16 0 (by omega) (by omega)]; exact q2, by rw [hc 16 1 (by omega) (by omega), h11]; exact q3, fun e he => ?_⟩
  rw [h11] at he
  rw [hc 17 _ (by omega) (by omega), hc 18 _ (by omega) (by omega), hc 19 _ (by omega) (by omega), hs _ (by omega), hs _ (by omega), hs _ (by omega)]
  exact q4 e he
theorem pRe_c {s s' : Nat → Nat} {e : Nat} (hs : ∀ k, 166 ≤ k → s' k = s k) (q : pRe s e) : pRe s' e := by
  unfold pRe at q ⊢
  rw [hs _ (by omega), hs _ (by omega)]
  exact q
theorem pun_b {s : Nat → Nat} (hs : ∀ k, s k < 2147483648) (j v : Nat) (hv : v < 2147483648) : ∀ k, pun s j v k < 2147483648 := by
  intro k
  unfold pun
  split
  · exact hv
  · exact hs k
/-! ===== holders ===== -/
theorem px_inB (m : tvM) {x lo hi : Int32} (h : x < lo ∨ hi < x) : f_X9_isIn m x lo hi = 0 := by
  unfold f_X9_isIn
  by_cases h0 : x < lo
  · rw [if_pos h0]
  · rw [if_neg h0, if_pos (h.resolve_left h0)]
theorem pc_code0 (m : tvM) (b : Nat) {x : Int32} (h : x < 0 ∨ 999 < x) : f_X6_isCode m b x = 0 := by
  unfold f_X6_isCode
  by_cases h0 : x < 0
  · rw [if_pos h0]
  · rw [if_neg h0, if_pos (h.resolve_left h0)]
theorem pc_code1 (m : tvM) (b : Nat) {n : Nat} (h : n ≤ 999) : f_X6_isCode m b (nI n) = 1 := by
  unfold f_X6_isCode
  rw [if_neg (pn_neg (by omega)), if_neg (by rw [pl_999, pn_lt (by omega) (by omega)]; omega)]
theorem px_code1 (m : tvM) {n : Nat} (h : n ≤ 999) : f_X9_isIn m (nI n) 0 999 = nI 1 := px_in1 (lo := 0) (hi := 999) m (by omega) h (by omega)
theorem pn_code {x : Int32} (h : ¬ (x < 0 ∨ 999 < x)) : ∃ n : Nat, n ≤ 999 ∧ x = nI n := by
  obtain ⟨n, hn, rfl⟩ := pn_nneg (fun q => h (Or.inl q))
  refine ⟨n, ?_, rfl⟩
  have : ¬ (999 : Int32) < nI n := fun q => h (Or.inr q)
  rw [pl_999, pn_lt (by omega) (by omega)] at this
  omega
theorem pSim_holds {B : Nat} {c : Nat → Nat → Int32} {l : Int64} {s : Nat → Nat} (b : Nat) (hR : pOk B c l s) (hB : B + 240 ≤ 10000000) (x : Int32) : pSim B c l s b (fun m => f_X6_refusalOfHolder m b x) (fun m => f_X2_add m b x) (fun m => m) (fun m => f_X9_holds m x) (fun m => q_X9_holds m x) [(2, 1), (3, 2)] (s 9 < 4 → x = nI (7 * s 9)) 0 := by
  intro M M1 M' t
  obtain ⟨⟨hb, hs, hh, hx, he, hsum⟩, ⟨hc, hch, hcx, hcl⟩⟩ := hR
  have hs' := hs
  obtain ⟨s0, s1, s2, s3, s45, s67, s8, s9, s10, s11, sB⟩ := hs
  have hc' := hc
  obtain ⟨c04, c05, c06, c07, cl, c10, c11, c20, c60⟩ := hc
  by_cases hbad : x < 0 ∨ 999 < x
  · refine Or.inr (Or.inl ⟨(2, 1), by simp, ?_, ?_⟩)
    · simp only [f_X6_refusalOfHolder, pc_code0 _ b hbad, ↓reduceIte]
    · have hin : ∀ m, f_X9_isIn m x 0 999 = 0 := fun m => px_inB m hbad
      unfold q_X9_holds f_X9_holds
      simp only [hin]
      simp (disch := first | omega | exact hb _) only [pl_0, pl_1, pl_2, pl_3, pl_4, pl_5, pl_6, pl_7, pl_8, pl_9, pl_10, pl_11, pl_12, pl_13, pl_25, pl_30, pl_36, pl_50, pl_60, pl_98, pl_99, pl_100, pl_102, pl_104, pl_105, pl_108, pl_111, pl_112, pl_116, pl_119, pl_166, pl_199, pl_202, pl_239, pl_240, pl_480, pl_999, pl_1000, puN_g, puN_p, puN_pt, px_thr0, px_thr1, px_qthr0, px_qthr1, nI_add, pn_mul, pn_c, pn_le, pn_lt, pn_eq, px_of, px_sets, px_ofh, px_seth, px_qof, px_qsets, px_qofh, px_qseth, pun_s, pun_n, ↓reduceIte]
      simp
  · obtain ⟨n, hn9, rfl⟩ := pn_code hbad
    have hin : ∀ m, f_X9_isIn m (nI n) 0 999 = nI 1 := fun m => px_code1 m hn9
    have hco := pc_code1 (puC M b c l) b hn9
    by_cases h8 : s 9 = 8
    · refine Or.inr (Or.inl ⟨(3, 2), by simp, ?_, ?_⟩)
      · simp only [f_X6_refusalOfHolder, hco, puC_g2, c20, h8]
        decide
      · unfold q_X9_holds f_X9_holds
        simp only [hin]
        simp (disch := first | omega | exact hb _) only [pl_0, pl_1, pl_2, pl_3, pl_4, pl_5, pl_6, pl_7, pl_8, pl_9, pl_10, pl_11, pl_12, pl_13, pl_25, pl_30, pl_36, pl_50, pl_60, pl_98, pl_99, pl_100, pl_102, pl_104, pl_105, pl_108, pl_111, pl_112, pl_116, pl_119, pl_166, pl_199, pl_202, pl_239, pl_240, pl_480, pl_999, pl_1000, puN_g, puN_p, puN_pt, px_thr0, px_thr1, px_qthr0, px_qthr1, nI_add, pn_mul, pn_c, pn_le, pn_lt, pn_eq, px_of, px_sets, px_ofh, px_seth, px_qof, px_qsets, px_qofh, px_qseth, pun_s, pun_n, ↓reduceIte, h8]
        simp
    · refine Or.inl ⟨?_, s 9, tvU (tvU (tvU (tvU c 3 (s 9) (nI n)) 4 (s 9) 0) 5 (s 9) 0) 2 0 (nI (s 9 + 1)), l, pun (pun s (12 + 3 * s 9 + 0) n) 9 (s 9 + 1), by omega, ?_, ?_⟩
      · simp only [f_X6_refusalOfHolder, hco, puC_g2, c20]
        rw [if_neg (by decide), if_pos]
        rw [pl_8, pn_lt (by omega) (by omega)]
        omega
      · simp only [f_X2_add, puC_g2, c20]
        rw [if_neg (pn_neg (by omega)), if_pos (by rw [pl_8, pn_lt (by omega) (by omega)]; omega), pn_c (by omega)]
        simp (disch := omega) only [puC_p3, puC_p4, puC_p5, puC_p2, puC_g2, pcu_r, c20, nI_1]
      · have hh9 := hh (s 9) (by omega)
        refine ⟨?_, ?_, ⟨⟨?_, ?_, ?_, ?_, ?_, ?_⟩, ⟨?_, ?_, ?_, ?_⟩⟩, fun g z hX => pXi_hold (by omega) (fun h => (pn_eq (by omega) (by omega)).mp (g h)) hX, Nat.zero_le _⟩
        · unfold q_X9_holds
          simp only [hin]
          simp (disch := first | omega | exact hb _) only [pl_0, pl_1, pl_2, pl_3, pl_4, pl_5, pl_6, pl_7, pl_8, pl_9, pl_10, pl_11, pl_12, pl_13, pl_25, pl_30, pl_36, pl_50, pl_60, pl_98, pl_99, pl_100, pl_102, pl_104, pl_105, pl_108, pl_111, pl_112, pl_116, pl_119, pl_166, pl_199, pl_202, pl_239, pl_240, pl_480, pl_999, pl_1000, puN_g, puN_p, puN_pt, px_thr0, px_thr1, px_qthr0, px_qthr1, nI_add, pn_mul, pn_c, pn_le, pn_lt, pn_eq, px_of, px_sets, px_ofh, px_seth, px_qof, px_qsets, px_qofh, px_qseth, pun_s, pun_n, ↓reduceIte]
          simp [h8]
        · unfold f_X9_holds
          simp only [hin]
          simp (disch := first | omega | exact hb _) only [pl_0, pl_1, pl_2, pl_3, pl_4, pl_5, pl_6, pl_7, pl_8, pl_9, pl_10, pl_11, pl_12, pl_13, pl_25, pl_30, pl_36, pl_50, pl_60, pl_98, pl_99, pl_100, pl_102, pl_104, pl_105, pl_108, pl_111, pl_112, pl_116, pl_119, pl_166, pl_199, pl_202, pl_239, pl_240, pl_480, pl_999, pl_1000, puN_g, puN_p, puN_pt, px_thr0, px_thr1, px_qthr0, px_qthr1, nI_add, pn_mul, pn_c, pn_le, pn_lt, pn_eq, px_of, px_sets, px_ofh, px_seth, px_qof, px_qsets, px_qofh, px_qseth, pun_s, pun_n, ↓reduceIte, h8]
          simp (disch := omega) only [pn_sub, Nat.add_sub_cancel, ↓reduceIte]
          simp
        · exact pun_b (pun_b hb _ _ (by omega)) _ _ (by omega)
        · have := hs'.up (B' := B + 240) (by omega) hB
          unfold pRs at this ⊢
          simp (disch := omega) only [pun_s, pun_n]
          omega
        · intro h h1
          by_cases e : h = s 9
          · subst e
            unfold pRh at hh9 ⊢
            simp (disch := omega) only [pun_s, pun_n]
            omega
          · exact pRh_c (by simp (disch := omega) only [pun_n]; omega) (by simp (disch := omega) only [pun_s]; omega) (by simp (disch := omega) only [pun_n]) (by simp (disch := omega) only [pun_n]) (hh h h1)
        · exact fun i hi => pRx_c (by simp (disch := omega) only [pun_n]; omega) (by simp (disch := omega) only [pun_n]; omega) (fun w _ _ => by simp (disch := omega) only [pun_n]) (hx i hi)
        · exact fun e h1 => pRe_c (fun k hk => by simp (disch := omega) only [pun_n]) (he e h1)
        · rw [pSu_c (s := s) (by simp (disch := omega) only [pun_n]) s10 (fun i hi w hw => by simp (disch := omega) only [pun_n]) (fun i hi => (hx i hi).2.2.2.2.1)]
          simp (disch := omega) only [pun_n]
          exact hsum
        · unfold pCs
          simp (disch := omega) only [pun_n, pun_s, pcu_r, pcu_k, pcu_s, true_and]
          exact ⟨c04, c05, c06, c07, cl, c10, c11, c60⟩
        · intro h h1
          rw [pun_s] at h1
          by_cases e : h = s 9
          · subst e
            unfold pCh
            simp (disch := omega) only [pun_n, pun_s, pcu_r, pcu_k, pcu_s]
            rw [(hh9.2.2 (by omega)).1, (hh9.2.2 (by omega)).2]
            simp only [true_and]
            exact ⟨rfl, rfl⟩
          · refine pCh_c (fun p h1 h2 => ?_) (fun w hw => by simp (disch := omega) only [pun_n]) (hch h (by omega))
            rcases (show p = 3 ∨ p = 4 ∨ p = 5 by omega) with rfl | rfl | rfl <;> simp (disch := omega) only [pcu_r, pcu_k]
        · intro i hi
          rw [pun_n _ _ (by omega), pun_n _ _ (by omega)] at hi
          refine pCx_c (hx i (by omega)).2.2.2.2.1 (fun p h1 h2 => ?_) (fun j hj => ?_) (fun w hw => by simp (disch := omega) only [pun_n]) (hcx i hi)
          · simp (disch := omega) only [pcu_r]
          · simp (disch := omega) only [pcu_r]
        · exact pCl_c (fun p k h1 h2 => by simp (disch := omega) only [pcu_r]) (by simp (disch := omega) only [pun_n]) (fun k hk => by simp (disch := omega) only [pun_n]) hcl

