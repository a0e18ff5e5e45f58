/-! ===== the class's way ===== -/
theorem psm_ge (f : Nat → Nat) {i n : Nat} (h : i < n) : f i ≤ psm f n := by
  induction n with
  | zero => omega
  | succ n ih =>
    show f i ≤ psm f n + f n
    by_cases e : i = n
    · subst e; omega
    · have := ih (by omega)
      omega
theorem pc_best (M : tvM) (b : Nat) {c : Nat → Nat → Int32} (l : Int64) {n i m : Nat} {v : Nat → Nat} (h : c 6 0 = nI n) (hn : n ≤ 10) (hi : i < n) (hm : m ≤ 5) (hv : ∀ j, j < m → c 15 (i * 5 + j) = nI (v j)) (hv2 : ∀ j, v j < 2147483648) : ∀ j, j < m → tvBs (puC M b c l) b (nI i) j = nI (pBe v j) := by
  intro j
  induction j with
  | zero => intro _; rfl
  | succ j ih =>
    intro hj
    have hb := pBe_le v j
    show (if f_X0_valueOf (puC M b c l) b (nI i) (nI (j + 1)) ≤ f_X0_valueOf (puC M b c l) b (nI i) (tvBs (puC M b c l) b (nI i) j) then tvBs (puC M b c l) b (nI i) j else nI (j + 1)) = nI (if v (j + 1) ≤ v (pBe v j) then pBe v j else j + 1)
    rw [ih (by omega), pc_value M b l h hn hi (by omega), pc_value M b l h hn hi (by omega), hv _ hj, hv _ (by omega)]
    by_cases e : v (j + 1) ≤ v (pBe v j)
    · rw [if_pos (by rw [pn_le (hv2 _) (hv2 _)]; exact e), if_pos e]
    · rw [if_neg (by rw [pn_le (hv2 _) (hv2 _)]; exact e), if_neg e]
theorem pc_shift (M : tvM) (b : Nat) {c : Nat → Nat → Int32} (l : Int64) {n i k : Nat} (h : c 6 0 = nI n) (hn : n ≤ 10) (hi : i < n) : ∀ j, k + j < 5 → tvSh1 (puC M b c l) b (nI i) (nI k) j = puC M b (pSfc c i k j) l := by
  intro j
  induction j with
  | zero => intro _; rw [pSfc_0]; rfl
  | succ j ih =>
    intro hj
    have h6 : pSfc c i k j 6 0 = nI n := by rw [pSfc_o _ _ _ _ _ (by omega)]; exact h
    show f_X0_setValue (tvSh1 (puC M b c l) b (nI i) (nI k) j) b (nI i) (nI k + 1 + nI j - 1) (f_X0_valueOf (tvSh1 (puC M b c l) b (nI i) (nI k) j) b (nI i) (nI k + 1 + nI j)) = _
    rw [ih (by omega), pl_1, nI_add, nI_add, pn_sub (by omega), pc_value M b l h6 hn hi (by omega), show k + 1 + j - 1 = k + j by omega, pc_setValue M b l h6 hn hi (by omega), pSfc_5, if_neg (by omega), pSfc_s]
theorem pc_take (M : tvM) (b : Nat) {c : Nat → Nat → Int32} (l : Int64) {n i m : Nat} {v : Nat → Nat} (h : c 6 0 = nI n) (hn : n ≤ 10) (hi : i < n) (hm : m ≤ 5) (h0 : 0 < m) (h14 : c 14 i = nI m) (hv : ∀ j, j < m → c 15 (i * 5 + j) = nI (v j)) (hv2 : ∀ j, v j < 2147483648) : f_X0_takeBest (puC M b c l) b (nI i) = (nI (v (pBe v (m - 1))), puC M b (tvU (pSfc c i (pBe v (m - 1)) (m - (pBe v (m - 1) + 1))) 14 i (nI (m - 1))) l) := by
  have hk := pBe_le v (m - 1)
  have hp : f_X0_pearlsIn (puC M b c l) b (nI i) = nI m := by rw [pc_pearls M b l h hn hi, h14]
  have hbest : tvBest (puC M b c l) b (nI i) = nI (pBe v (m - 1)) := by
    unfold tvBest
    rw [hp, pn_c (by omega), pc_best M b l h hn hi hm hv hv2 _ (by omega)]
  have h6 : ∀ k j, pSfc c i k j 6 0 = nI n := fun k j => by rw [pSfc_o _ _ _ _ _ (by omega)]; exact h
  unfold f_X0_takeBest tvShM
  rw [hbest, hp, pn_c (by omega), pn_c (by omega), pc_shift M b l h hn hi _ (by omega), pc_value M b l h hn hi (by omega), hv _ (by omega), pl_1, pn_sub (by omega), pc_setPearls M b l (h6 _ _) hn hi (by omega)]
theorem pXi_sf {z : Nat × Nat} {s : Nat → Nat} {i k y : Nat} (hi : i < 10) (hy : y < 5) (hX : pXi z s) : pXi z (pSf s i k y) :=
  pXi_c (by rw [pSf_o _ _ _ _ (by omega)]; exact Nat.le_refl _) (pSf_o _ _ _ _ (by omega)) (pSf_o _ _ _ _ (by omega)) (pSf_o _ _ _ _ (by omega)) (fun h _ => pSf_o _ _ _ _ (by omega)) (fun j _ => ⟨pSf_o _ _ _ _ (by omega), pSf_o _ _ _ _ (by omega), fun z => ⟨by rw [pSf_o _ _ _ _ (by omega)] at z; exact z, pSf_o _ _ _ _ (by omega)⟩⟩) (fun k _ => pSf_o _ _ _ _ (by omega)) hX
theorem pSim_withdraws {B : Nat} {c : Nat → Nat → Int32} {l : Int64} {s : Nat → Nat} (b : Nat) (hR : pOk B c l s) (hB : B + 240 ≤ 10000000) (x1 : Int32) : pSim B c l s b (fun m => f_X6_refusalOfTake m b x1) (fun m => f_X6_take m b x1) (fun m => m) (fun m => f_X9_withdraws m x1) (fun m => q_X9_withdraws m x1) [(1, 1), (3, 2), (5, 3)] True 0 := by
  intro M M1 M' t
  obtain ⟨⟨hb, hs, hh, hx, he, hsum⟩, ⟨hc, hch, hcx, hcl⟩⟩ := id hR
  have hs' := hs
  obtain ⟨s0, s1, s2, s3, s45, s67, s8, s9, s10, s11, sB⟩ := hs
  have hc' := hc
  obtain ⟨c04, c05, c06, c07, cl, c10, c11, c20, c60⟩ := hc
  have hend : ∀ (x : Int32) (r : Int32 × tvM), e_X9_withdraws (puN M' s t) x = .inr r → qe_X9_withdraws (puN M' s t) x → q_X9_withdraws (puN M' s t) x ∧ f_X9_withdraws (puN M' s t) x = r := by
    intro x r h1 h2
    have l0 : pEnd (s_X9_withdraws x) (qs_X9_withdraws x) 5000 (.inr r) r := pEnd_r _ _
    rw [← h1] at l0
    exact ⟨⟨h2, ⟨_, l0.1⟩, l0.2⟩, pGet l0.1⟩
  by_cases h1 : ∃ i, i < s 10 ∧ x1 = nI i
  case neg =>
    have g1 : ∀ t, f_X9_isBox (puN M' s t) x1 = nI 0 := fun t => px_box0 M' s t x1 s10 h1
    refine Or.inr (Or.inl ⟨(1, 1), by simp, ?_, ?_⟩)
    · simp only [f_X6_refusalOfTake, pc_has0 M b l c60 s10 h1, ↓reduceIte]
    · refine hend x1 _ ?_ ?_
      · unfold e_X9_withdraws
        simp (disch := first | omega | exact hb _) only [pl_0, pl_1, pl_2, pl_3, pl_4, pl_5, pl_6, pl_7, pl_8, pl_9, pl_10, pl_11, pl_12, pl_13, pl_25, pl_30, pl_36, pl_50, pl_60, pl_98, pl_99, pl_100, pl_102, pl_104, pl_105, pl_108, pl_111, pl_112, pl_116, pl_119, pl_166, pl_199, pl_202, pl_239, pl_240, pl_480, pl_999, pl_1000, puN_g, puN_p, puN_pt, px_thr0, px_thr1, px_qthr0, px_qthr1, nI_add, pn_mul, pn_c, pn_le, pn_lt, pn_eq, px_of, px_sets, px_ofh, px_seth, px_qof, px_qsets, px_qofh, px_qseth, pun_s, pun_n, ↓reduceIte, g1]
      · unfold qe_X9_withdraws
        simp (disch := first | omega | exact hb _) only [pl_0, pl_1, pl_2, pl_3, pl_4, pl_5, pl_6, pl_7, pl_8, pl_9, pl_10, pl_11, pl_12, pl_13, pl_25, pl_30, pl_36, pl_50, pl_60, pl_98, pl_99, pl_100, pl_102, pl_104, pl_105, pl_108, pl_111, pl_112, pl_116, pl_119, pl_166, pl_199, pl_202, pl_239, pl_240, pl_480, pl_999, pl_1000, puN_g, puN_p, puN_pt, px_thr0, px_thr1, px_qthr0, px_qthr1, nI_add, pn_mul, pn_c, pn_le, pn_lt, pn_eq, px_of, px_sets, px_ofh, px_seth, px_qof, px_qsets, px_qofh, px_qseth, pun_s, pun_n, ↓reduceIte, g1]
        simp
  obtain ⟨i, hi, rfl⟩ := h1
  have g1 : ∀ t, f_X9_isBox (puN M' s t) (nI i) = nI 1 := fun t => px_box1 M' s t s10 hi
  have k1 := pc_has1 M b l c60 s10 hi
  have h6 := hR.six hi
  by_cases q3 : s (36 + 13 * i + 3) = 3
  case neg =>
    refine Or.inr (Or.inl ⟨(3, 2), by simp, ?_, ?_⟩)
    · have : ¬ pSt (s (36 + 13 * i + 3)) = 111 := fun e => q3 ((pSt_eq _ h6.1).2.2.2.mp e)
      simp only [f_X6_refusalOfTake, k1, hR.st hi M b, this, ↓reduceIte]
      simp
    · refine hend _ _ ?_ ?_
      · unfold e_X9_withdraws
        simp (disch := first | omega | exact hb _) only [pl_0, pl_1, pl_2, pl_3, pl_4, pl_5, pl_6, pl_7, pl_8, pl_9, pl_10, pl_11, pl_12, pl_13, pl_25, pl_30, pl_36, pl_50, pl_60, pl_98, pl_99, pl_100, pl_102, pl_104, pl_105, pl_108, pl_111, pl_112, pl_116, pl_119, pl_166, pl_199, pl_202, pl_239, pl_240, pl_480, pl_999, pl_1000, puN_g, puN_p, puN_pt, px_thr0, px_thr1, px_qthr0, px_qthr1, nI_add, pn_mul, pn_c, pn_le, pn_lt, pn_eq, px_of, px_sets, px_ofh, px_seth, px_qof, px_qsets, px_qofh, px_qseth, pun_s, pun_n, ↓reduceIte, g1, q3]
        simp
      · unfold qe_X9_withdraws
        simp (disch := first | omega | exact hb _) only [pl_0, pl_1, pl_2, pl_3, pl_4, pl_5, pl_6, pl_7, pl_8, pl_9, pl_10, pl_11, pl_12, pl_13, pl_25, pl_30, pl_36, pl_50, pl_60, pl_98, pl_99, pl_100, pl_102, pl_104, pl_105, pl_108, pl_111, pl_112, pl_116, pl_119, pl_166, pl_199, pl_202, pl_239, pl_240, pl_480, pl_999, pl_1000, puN_g, puN_p, puN_pt, px_thr0, px_thr1, px_qthr0, px_qthr1, nI_add, pn_mul, pn_c, pn_le, pn_lt, pn_eq, px_of, px_sets, px_ofh, px_seth, px_qof, px_qsets, px_qofh, px_qseth, pun_s, pun_n, ↓reduceIte, g1, q3]
        simp
  by_cases q0 : s (36 + 13 * i + 7) = 0
  · refine Or.inr (Or.inl ⟨(5, 3), by simp, ?_, ?_⟩)
    · simp only [f_X6_refusalOfTake, k1, hR.st hi M b, hR.prl hi M b, q3, q0, pSt, ↓reduceIte]
      simp [nI_0]
    · refine hend _ _ ?_ ?_
      · unfold e_X9_withdraws
        simp (disch := first | omega | exact hb _) only [pl_0, pl_1, pl_2, pl_3, pl_4, pl_5, pl_6, pl_7, pl_8, pl_9, pl_10, pl_11, pl_12, pl_13, pl_25, pl_30, pl_36, pl_50, pl_60, pl_98, pl_99, pl_100, pl_102, pl_104, pl_105, pl_108, pl_111, pl_112, pl_116, pl_119, pl_166, pl_199, pl_202, pl_239, pl_240, pl_480, pl_999, pl_1000, puN_g, puN_p, puN_pt, px_thr0, px_thr1, px_qthr0, px_qthr1, nI_add, pn_mul, pn_c, pn_le, pn_lt, pn_eq, px_of, px_sets, px_ofh, px_seth, px_qof, px_qsets, px_qofh, px_qseth, pun_s, pun_n, ↓reduceIte, g1, q3, q0]
        simp
      · unfold qe_X9_withdraws
        simp (disch := first | omega | exact hb _) only [pl_0, pl_1, pl_2, pl_3, pl_4, pl_5, pl_6, pl_7, pl_8, pl_9, pl_10, pl_11, pl_12, pl_13, pl_25, pl_30, pl_36, pl_50, pl_60, pl_98, pl_99, pl_100, pl_102, pl_104, pl_105, pl_108, pl_111, pl_112, pl_116, pl_119, pl_166, pl_199, pl_202, pl_239, pl_240, pl_480, pl_999, pl_1000, puN_g, puN_p, puN_pt, px_thr0, px_thr1, px_qthr0, px_qthr1, nI_add, pn_mul, pn_c, pn_le, pn_lt, pn_eq, px_of, px_sets, px_ofh, px_seth, px_qof, px_qsets, px_qofh, px_qseth, pun_s, pun_n, ↓reduceIte, g1, q3, q0]
        simp
  obtain ⟨m, hm⟩ : ∃ m, s (36 + 13 * i + 7) = m := ⟨_, rfl⟩
  rw [hm] at q0
  have hm5 : m ≤ 5 := by omega
  obtain ⟨d1, d2, d3, d4, d5, d6, d7⟩ := hx i (by omega)
  obtain ⟨e1, e2, e3, e4, e5, e6, e7, e8, e9⟩ := hcx i hi
  have hmod := px_withdraw M' s t hb s10 hi s11 q3 hm (by omega) hm5 d6 (by omega)
  obtain ⟨v, hv⟩ : ∃ v : Nat → Nat, v = fun j => s (36 + 13 * i + (8 + j)) := ⟨_, rfl⟩
  have hv' : ∀ j, s (36 + 13 * i + (8 + j)) = v j := fun j => by rw [hv]
  rw [← hv, hv'] at hmod
  obtain ⟨k, hk⟩ : ∃ k, k = pBe v (m - 1) := ⟨_, rfl⟩
  have hkm : k ≤ m - 1 := by rw [hk]; exact pBe_le _ _
  rw [← hk] at hmod
  have htake : ∀ M, f_X0_takeBest (puC M b c l) b (nI i) = (nI (v k), puC M b (tvU (pSfc c i k (m - (k + 1))) 14 i (nI (m - 1))) l) := fun M => by
    rw [pc_take M b l c60 s10 hi hm5 (by omega) (by rw [e8, hm]) (fun j hj => by rw [e9 j (by omega), hv']) (fun j => by rw [← hv']; exact hb _), ← hk]
  have hvk : v k ≤ 99 := by rw [← hv']; exact d6 k (by omega)
  have hwo : pWo s i = v k + psm (fun j => if j < k then v j else v (j + 1)) (m - 1) := by
    rw [← psm_del v k m (by omega)]
    unfold pWo
    rw [hm, hv]
  have hle : v k ≤ s 6 - s 7 := by
    have : pWo s i ≤ pSu s := psm_ge (pWo s) hi
    omega
  have r1 : pOk (B + 240) (tvU (pSfc c i k (m - (k + 1))) 14 i (nI (m - 1))) (l - lN (v k)) (pun (pun (pun (pSf s i k (m - 1)) (36 + 13 * i + (8 + (m - 1))) 0) (36 + 13 * i + 7) (m - 1)) 7 (s 7 + v k)) := by
    have hsf : ∀ q, q < 36 + 13 * i + 8 ∨ 36 + 13 * i + 13 ≤ q → pSf s i k (m - 1) q = s q := fun q hq => pSf_o s i k (m - 1) (by omega)
    refine pOk_pr (i := i) hR hi (pun_b (pun_b (pun_b (fun q => ?_) _ _ (by omega)) _ _ (by omega)) _ _ (by omega)) ?_ (fun q h6 h7 hq => ?_) (fun p q hp hq => ?_) (fun q hq => ?_) ?_ ?_ ?_ ?_
    · unfold pSf
      split
      · exact hb _
      · exact hb _
    · have := hs'.up (B' := B + 240) (by omega) hB
      unfold pRs at this ⊢
      simp (disch := omega) only [pun_s, pun_n, hsf]
      omega
    · have k7 := hq 7 (by omega) (by omega)
      have k8 := hq (8 + (m - 1)) (by omega) (by omega)
      have k9 : ¬ (36 + 13 * i + (8 + k) ≤ q ∧ q < 36 + 13 * i + (8 + (m - 1))) := by
        intro e
        exact hq (q - (36 + 13 * i)) (by omega) (by omega) (by omega)
      rw [pun_n _ _ h7, pun_n _ _ k7, pun_n _ _ k8]
      unfold pSf
      rw [if_neg k9]
    · by_cases e : p = 14
      · subst e
        rw [pcu_k _ _ _ (by omega), pSfc_o _ _ _ _ _ (by omega)]
      · rw [pcu_r _ _ _ _ e, pSfc_o _ _ _ _ _ hp]
    · rw [pcu_r _ _ _ _ (by omega), pSfc_5, if_neg]
      intro e
      exact hq (q - i * 5) (by omega) (by omega)
    · unfold pRx
      simp (disch := omega) only [pun_s, pun_n, hsf]
      refine ⟨d1, d2, d3, d4, by omega, fun j hj => ?_, fun q => absurd hi (by omega)⟩
      by_cases e : j = m - 1
      · subst e
        simp (disch := omega) only [pun_s, pun_n]
        omega
      · simp (disch := omega) only [pun_n]
        unfold pSf
        split
        · rw [show 36 + 13 * i + (8 + j) + 1 = 36 + 13 * i + (8 + (j + 1)) by omega]
          exact d6 (j + 1) (by omega)
        · exact d6 j hj
    · unfold pCx
      simp (disch := omega) only [pun_s, pun_n, pcu_r, pcu_s, hsf]
      refine ⟨?_, ?_, ?_, ?_, fun q => ?_, fun q => ?_, fun q => ?_, trivial, fun j hj => ?_⟩
      · rw [pSfc_o _ _ _ _ _ (by omega)]; exact e1
      · rw [pSfc_o _ _ _ _ _ (by omega)]; exact e2
      · rw [pSfc_o _ _ _ _ _ (by omega)]; exact e3
      · rw [pSfc_o _ _ _ _ _ (by omega)]; exact e4
      · rw [pSfc_o _ _ _ _ _ (by omega)]; exact e5 q
      · rw [pSfc_o _ _ _ _ _ (by omega)]; exact e6 q
      · rw [pSfc_o _ _ _ _ _ (by omega)]; exact e7 q
      · rw [pSfc_5]
        try simp (disch := omega) only [pun_n]
        unfold pSf
        by_cases e : k ≤ j
        · rw [if_pos (by omega), if_pos (by omega), show i * 5 + j + 1 = i * 5 + (j + 1) by omega, show 36 + 13 * i + (8 + j) + 1 = 36 + 13 * i + (8 + (j + 1)) by omega]
          exact e9 (j + 1) (by omega)
        · rw [if_neg (by omega), if_neg (by omega)]
          exact e9 j (by omega)
    · simp (disch := omega) only [pun_s, pun_n, hsf]
      rw [cl, lN_sub hle]
      congr 1
      omega
    · have w2 : pWo (pun (pun (pun (pSf s i k (m - 1)) (36 + 13 * i + (8 + (m - 1))) 0) (36 + 13 * i + 7) (m - 1)) 7 (s 7 + v k)) i = psm (fun j => if j < k then v j else v (j + 1)) (m - 1) := by
        unfold pWo
        simp (disch := omega) only [pun_s, pun_n]
        refine psm_c fun j hj => ?_
        simp (disch := omega) only [pun_n]
        unfold pSf
        by_cases e : k ≤ j
        · rw [if_pos (by omega), if_neg (by omega), ← hv']
          rfl
        · rw [if_neg (by omega), if_pos (by omega), ← hv']
      rw [hwo, w2]
      simp (disch := omega) only [pun_s, pun_n, hsf]
      omega
  obtain ⟨c2, k2, g2, r2⟩ := pOk_log r1 (kd := 119) (n := i) (by omega) (by omega)
  have z0 : pSf s i k (m - 1) 0 = s 0 := pSf_o s i k (m - 1) (by omega)
  simp (disch := omega) only [pun_n, z0] at g2
  refine Or.inl ⟨?_, v k, c2, l - lN (v k), _, by omega, ?_, hmod.1, hmod.2, r2, fun _ z hX => pXi_log _ _ (by simp (disch := omega) only [pun_n]; rw [pSf_o _ _ _ _ (by omega)]; exact s11) (pXi_lo _ (by omega) (by omega) (pXi_bw (w := 7) _ (by omega) (by omega) (by omega) (pXi_bw (w := 8 + (m - 1)) _ (by omega) (by omega) (by omega) (pXi_sf (by omega) (by omega) hX)))), Nat.zero_le _⟩
  · have : ¬ nI m = 0 := nI_ne0 (by omega) (by omega)
    simp only [f_X6_refusalOfTake, k1, hR.st hi M b, hR.prl hi M b, q3, hm, this, pSt, ↓reduceIte]
    simp
  · simp only [f_X6_take, htake, puC_l, puC_pl, puC_g0, pn_l (show v k < 2 ^ 31 by omega), pl_119]
    rw [pcu_r _ _ _ _ (by omega), pSfc_o _ _ _ _ _ (by omega), c04, g2]

