/-! ===== taking a pearl out ===== -/
theorem px_withdraw (M' : tvM) (s : Nat → Nat) (t : Int32) {i m : Nat} (hb : ∀ k, s k < 2147483648) (s10 : s 10 ≤ 10) (hi : i < s 10) (s11 : s 11 ≤ 12) (h3 : s (36 + 13 * i + 3) = 3) (hm : s (36 + 13 * i + 7) = m) (h0 : 0 < m) (h5 : m ≤ 5) (h99 : ∀ j, j < 5 → s (36 + 13 * i + (8 + j)) ≤ 99) (h7 : s 7 ≤ 2000000000) :
    q_X9_withdraws (puN M' s t) (nI i) ∧ f_X9_withdraws (puN M' s t) (nI i) = (nI (s (36 + 13 * i + (8 + pBe (fun j => s (36 + 13 * i + (8 + j))) (m - 1)))), puN M' (pLog (pun (pun (pun (pSf s i (pBe (fun j => s (36 + 13 * i + (8 + j))) (m - 1)) (m - 1)) (36 + 13 * i + (8 + (m - 1))) 0) (36 + 13 * i + 7) (m - 1)) 7 (s 7 + s (36 + 13 * i + (8 + pBe (fun j => s (36 + 13 * i + (8 + j))) (m - 1))))) 119 i) (nI 0)) := by
  have hi10 : i < 10 := by omega
  obtain ⟨v, hv⟩ : ∃ v : Nat → Nat, v = fun j => s (36 + 13 * i + (8 + j)) := ⟨_, rfl⟩
  have hv' : ∀ j, s (36 + 13 * i + (8 + j)) = v j := fun j => by rw [hv]
  rw [← hv, hv']
  have hbe : ∀ j, pBe v j ≤ j := pBe_le v
  have g1 : ∀ t, f_X9_isBox (puN M' s t) (nI i) = nI 1 := fun t => px_box1 M' s t s10 hi
  have he : e_X9_withdraws (puN M' s t) (nI i) = .inl (0, nI (pBe v 0), nI m, nI (0 + 1), 0, puN M' s (nI 0)) := by
    unfold e_X9_withdraws
    simp (disch := first | omega | exact hb _) only [pl_0, pl_1, pl_2, pl_3, pl_4, pl_5, pl_6, pl_7, pl_8, pl_9, pl_10, pl_11, pl_12, pl_13, pl_25, pl_30, pl_36, pl_50, pl_60, pl_98, pl_99, pl_100, pl_102, pl_104, pl_105, pl_108, pl_111, pl_112, pl_116, pl_119, pl_166, pl_199, pl_202, pl_239, pl_240, pl_480, pl_999, pl_1000, puN_g, puN_p, puN_pt, px_thr0, px_thr1, px_qthr0, px_qthr1, nI_add, pn_mul, pn_c, pn_le, pn_lt, pn_eq, px_of, px_sets, px_ofh, px_seth, px_qof, px_qsets, px_qofh, px_qseth, pun_s, pun_n, ↓reduceIte, g1, h3, hm]
    rw [if_neg (by omega), if_neg (by omega)]
    rfl
  -- the second loop
  obtain ⟨k, hk⟩ : ∃ k, k = pBe v (m - 1) := ⟨_, rfl⟩
  have hkm : k ≤ m - 1 := by rw [hk]; exact hbe _
  rw [← hk]
  have hvk : v k ≤ 99 := by rw [← hv']; exact h99 k (by omega)
  have hsf : ∀ y, k ≤ y → y < m - 1 → pSf s i k y (36 + 13 * i + (8 + y + 1)) = s (36 + 13 * i + (8 + y + 1)) := fun y h1 h2 => pSf_o s i k y (by omega)
  have o7 : ∀ y, pSf s i k y 7 = s 7 := fun y => pSf_o s i k y (by omega)
  have o0 : ∀ y, pSf s i k y 0 = s 0 := fun y => pSf_o s i k y (by omega)
  have o11 : ∀ y, pSf s i k y 11 = s 11 := fun y => pSf_o s i k y (by omega)
  have l2 : pEnd (s_X9_withdraws (nI i)) (qs_X9_withdraws (nI i)) (1 + (m - 1 - k)) (.inl (1, nI k, nI m, nI (v k), nI (k + 0), puN M' (pSf s i k (k + 0)) (nI 0))) (nI (v k), puN M' (pLog (pun (pun (pun (pSf s i k (m - 1)) (36 + 13 * i + (8 + (m - 1))) 0) (36 + 13 * i + 7) (m - 1)) 7 (s 7 + v k)) 119 i) (nI 0)) := by
    refine pEnd_n (fun y => (1, nI k, nI m, nI (v k), nI (k + y), puN M' (pSf s i k (k + y)) (nI 0))) (m - 1 - k) (fun y hy => ?_) (fun y hy => ?_) (pEnd_1 (y := .inr _) ?_ ?_ (pEnd_r 0 _))
    · unfold s_X9_withdraws sb_X9_withdraws
      simp only []
      rw [if_neg (by decide), pl_1, pn_sub (by omega), if_neg (by rw [pn_le (by omega) (by omega)]; omega)]
      simp (disch := omega) only [pl_8, nI_add, px_of, px_sets]
      rw [show 36 + 13 * i + (8 + (k + y) + 1) = 36 + 13 * i + (8 + (k + y) + 1) from rfl, hsf (k + y) (by omega) (by omega), pSf_s s i k (k + y) (by omega)]
      rfl
    · unfold qs_X9_withdraws qb_X9_withdraws
      refine ⟨fun e => absurd (show (1 : Nat) = 0 from e) (by decide), fun _ => ⟨fun e => ?_, fun _ => ?_⟩⟩
      · simp only [pl_1] at e
        rw [pn_sub (by omega), pn_le (by omega) (by omega)] at e
        omega
      · simp (disch := omega) only [pl_8, pl_1, nI_add, px_of, px_qof, px_qsets, and_self]
    · unfold s_X9_withdraws sb_X9_withdraws
      simp only []
      rw [if_neg (by decide), pl_1, pn_sub (by omega), if_pos (by rw [pn_le (by omega) (by omega)]; omega)]
      rw [show k + (m - 1 - k) = m - 1 by omega]
      simp (disch := first | omega | (simp (disch := omega) only [pun_n, o11, o7, o0]; omega)) only [pl_0, pl_1, pl_2, pl_3, pl_4, pl_5, pl_6, pl_7, pl_8, pl_9, pl_10, pl_11, pl_12, pl_13, pl_25, pl_30, pl_36, pl_50, pl_60, pl_98, pl_99, pl_100, pl_102, pl_104, pl_105, pl_108, pl_111, pl_112, pl_116, pl_119, pl_166, pl_199, pl_202, pl_239, pl_240, pl_480, pl_999, pl_1000, nI_add, pn_sub, px_of, px_sets, puN_g, puN_p, pun_n, o7, px_hap]
      rw [show 8 + m - 1 = 8 + (m - 1) by omega]
    · unfold qs_X9_withdraws qb_X9_withdraws
      refine ⟨fun e => absurd (show (1 : Nat) = 0 from e) (by decide), fun _ => ⟨fun e => ?_, fun e => ?_⟩⟩
      · rw [show k + (m - 1 - k) = m - 1 by omega]
        simp (disch := first | omega | (simp (disch := omega) only [pun_n, o11, o7, o0]; omega)) only [pl_0, pl_1, pl_2, pl_3, pl_4, pl_5, pl_6, pl_7, pl_8, pl_9, pl_10, pl_11, pl_12, pl_13, pl_25, pl_30, pl_36, pl_50, pl_60, pl_98, pl_99, pl_100, pl_102, pl_104, pl_105, pl_108, pl_111, pl_112, pl_116, pl_119, pl_166, pl_199, pl_202, pl_239, pl_240, pl_480, pl_999, pl_1000, nI_add, pn_sub, px_of, px_sets, px_qsets, puN_g, puN_p, pun_n, o7, px_hap, px_qhap, and_self]
      · exfalso
        simp only [pl_1] at e
        rw [pn_sub (by omega), pn_le (by omega) (by omega)] at e
        omega
  have l1 : pEnd (s_X9_withdraws (nI i)) (qs_X9_withdraws (nI i)) (1 + (m - 1 - k) + 1 + (m - 1)) (.inl (0, nI (pBe v 0), nI m, nI (0 + 1), 0, puN M' s (nI 0))) (nI (v k), puN M' (pLog (pun (pun (pun (pSf s i k (m - 1)) (36 + 13 * i + (8 + (m - 1))) 0) (36 + 13 * i + 7) (m - 1)) 7 (s 7 + v k)) 119 i) (nI 0)) := by
    refine pEnd_n (fun y => (0, nI (pBe v y), nI m, nI (y + 1), 0, puN M' s (nI 0))) (m - 1) (fun y hy => ?_) (fun y hy => ?_) (pEnd_1 (y := .inl (1, nI k, nI m, nI (v k), nI (k + 0), puN M' (pSf s i k (k + 0)) (nI 0))) ?_ ?_ l2)
    · have := hbe y
      unfold s_X9_withdraws sb_X9_withdraws
      simp only [↓reduceIte]
      rw [if_neg (by rw [pn_le (by omega) (by omega)]; omega)]
      simp (disch := first | omega | exact hb _) only [pl_8, nI_add, px_of, hv', nI_1]
      have a1 : v (y + 1) < 2147483648 := by rw [← hv']; exact hb _
      have a2 : v (pBe v y) < 2147483648 := by rw [← hv']; exact hb _
      show _ = Sum.inl (0, nI (if v (y + 1) ≤ v (pBe v y) then pBe v y else y + 1), _)
      by_cases e : v (y + 1) ≤ v (pBe v y)
      · rw [if_pos (by rw [pn_le a1 a2]; exact e), if_pos e]
      · rw [if_neg (by rw [pn_le a1 a2]; exact e), if_neg e]
    · have := hbe y
      unfold qs_X9_withdraws qb_X9_withdraws
      refine ⟨fun _ => ⟨fun e => ?_, fun _ => ?_⟩, fun e => absurd (show (0 : Nat) = 1 from e) (by decide)⟩
      · simp (disch := omega) only [pl_8, nI_add, px_qof, and_self]
      · simp (disch := omega) only [pl_8, nI_add, px_qof, true_and, implies_true, and_self]
    · unfold s_X9_withdraws sb_X9_withdraws
      simp only [↓reduceIte]
      rw [if_pos (by rw [pn_le (by omega) (by omega)]; omega), ← hk]
      simp (disch := omega) only [pl_8, nI_add, px_of, hv']
      rw [Nat.add_zero, pSf_0]
    · unfold qs_X9_withdraws qb_X9_withdraws
      refine ⟨fun _ => ⟨fun e => ?_, fun e => ?_⟩, fun e => absurd (show (0 : Nat) = 1 from e) (by decide)⟩
      · rw [← hk]
        simp (disch := omega) only [pl_8, nI_add, px_qof, and_self]
      · exfalso
        simp only [] at e
        rw [pn_le (by omega) (by omega)] at e
        omega
  have l0 := pEnd_to (F' := 5000) l1 (by omega)
  rw [← he] at l0
  refine ⟨⟨?_, ⟨_, l0.1⟩, l0.2⟩, pGet l0.1⟩
  unfold qe_X9_withdraws
  simp (disch := first | omega | exact hb _) only [pl_0, pl_1, pl_2, pl_3, pl_4, pl_5, pl_6, pl_7, pl_8, pl_9, pl_10, pl_11, pl_12, pl_13, pl_25, pl_30, pl_36, pl_50, pl_60, pl_98, pl_99, pl_100, pl_102, pl_104, pl_105, pl_108, pl_111, pl_112, pl_116, pl_119, pl_166, pl_199, pl_202, pl_239, pl_240, pl_480, pl_999, pl_1000, puN_g, puN_p, puN_pt, px_thr0, px_thr1, px_qthr0, px_qthr1, nI_add, pn_mul, pn_c, pn_le, pn_lt, pn_eq, px_of, px_sets, px_ofh, px_seth, px_qof, px_qsets, px_qofh, px_qseth, pun_s, pun_n, ↓reduceIte, g1, h3, hm]
  simp

