/-- a program that is refused at its command i0: all is as it was -/
theorem pRun_no {B : Nat} {M K N N' R : tvM} {s s' : Nat → Nat} {x n i0 k : Nat} (hB : B ≤ 10000000) (hJ : pJs B M M s x n) (hr : pJr B M M) (hi : i0 ≤ 60) (hk : k ≤ 4)
  (cR : ∀ p j, pRel p j → K.1 (1 + p) j = M.1 (1 + p) j) (cL : K.2.1 1 8 = M.2.1 1 8)
  (c0 : ∀ a, 21 ≤ a → a < 63 ∨ 243 < a → a ≠ 245 → a ≠ 246 → a < 249 → K.1 a = M.1 a) (ch : pHist B K M x n) (cl : K.2.1 41 8 = M.2.1 41 8)
  (k1 : K.1 243 1 = 0) (k7 : ∀ j, j ≤ 7 → K.1 0 j = M.1 0 j) (k8 : K.1 0 8 = nI i0) (k9 : K.1 0 9 = if k = 4 then 1 else 0)
  (n1 : ∀ a, a < 249 → N.1 a = K.1 a) (n2 : N.2 = K.2) (n3 : ∀ a, 252 ≤ a ∧ a ≤ 255 → N.1 a = M.1 a) (n4 : ∀ j, j < 202 → N.1 251 j = nI (s j)) (n5 : ∀ j, j ≤ 14 → j ≠ 5 → N.1 249 j = M.1 249 j) (n6 : N.1 249 15 = 0)
  (hx : pNx N N') (hb : ∀ j, s' j < 2147483648) (hR : R = pRuX N' s' k i0) : R.1 249 5 = 2 ∧ pJ B R R := by
  obtain ⟨h1, h2, ⟨hx9, hn, h5, h6, h7⟩, h8⟩ := hJ
  have rr : ∀ a, a ≠ 249 → a ≠ 250 → R.1 a = N.1 a := fun a q1 q2 => funext fun j => by
    rw [hR]
    unfold pRuX
    rw [tpi_o _ _ j q1, tpi_o _ _ j q1, tpi_o _ _ j q1, pCp_o _ (by omega), show (puN N' s' (nI k)).1 a j = N'.1 a j from puN_o _ _ _ q2 (by omega)]
    exact hx.1 a j (by omega)
  have r9 : ∀ j, j ≠ 5 → j ≠ 7 → j ≠ 8 → j ≠ 10 → R.1 249 j = N.1 249 j := fun j q1 q2 q3 q4 => by
    rw [hR]
    unfold pRuX
    rw [tpi_k _ _ _ q1, tpi_k _ _ _ q4, tpi_k _ _ _ q2, pCp_o _ (by omega), show (puN N' s' (nI k)).1 249 j = N'.1 249 j from puN_o _ _ _ (by omega) (by omega)]
    exact hx.1 249 j (by omega)
  have r5 : R.1 249 5 = 2 := by rw [hR]; exact tpi_s _ _ _ _
  have r7 : R.1 249 7 = nI i0 := by
    rw [hR]
    unfold pRuX
    rw [tpi_k _ _ _ (by omega), tpi_k _ _ _ (by omega)]
    exact tpi_s _ _ _ _
  have r10 : R.1 249 10 = if k = 4 then 1 else 0 := by
    rw [hR]
    unfold pRuX
    rw [tpi_k _ _ _ (by omega)]
    exact tpi_s _ _ _ _
  have r0 : ∀ j, R.1 250 j = nI (pOld s s' j) := fun j => by
    rw [hR]
    unfold pRuX
    rw [tpi_o _ _ j (by omega), tpi_o _ _ j (by omega), tpi_o _ _ j (by omega)]
    by_cases q : j < 202
    · rw [pCp_i _ (by omega) (by omega), pOld_1 s s' q, show 0 + (j - 0) = j by omega, show (puN N' s' (nI k)).1 251 j = N'.1 251 j from puN_o _ _ _ (by omega) (by omega)]
      exact (hx.1 251 j (by omega)).trans (n4 j q)
    · rw [pCp_o _ (by omega), pOld_2 s s' q]
      exact puN_g _ _ _ _
  have r2 : R.2 = K.2 := by
    rw [hR]
    exact hx.2.trans n2
  have kk : ∀ a, a < 249 → R.1 a = K.1 a := fun a q => (rr a (by omega) (by omega)).trans (n1 a q)
  have km : ∀ a, 252 ≤ a ∧ a ≤ 255 → R.1 a = M.1 a := fun a q => (rr a (by omega) (by omega)).trans (n3 a q)
  clear hR
  have ee : pL R 1 = pL M 1 := by
    show R.2.1 1 8 = M.2.1 1 8
    rw [r2]
    exact cL
  have hR1 : pOk B (pV R 1) (pL R 1) (pOld s s') := by
    rw [ee]
    refine pOk_cc (pOld_ok h2 hb) fun p j hr => ?_
    show R.1 (1 + p) j = M.1 (1 + p) j
    rw [kk (1 + p) (by unfold pRel at hr; omega)]
    exact cR p j hr
  have hH : pHist B R R x n := fun i hi => by
    obtain ⟨si, a, b⟩ := ch i hi
    have l9 : (x + 9 - n + i) % 9 < 9 := Nat.mod_lt _ (by omega)
    refine ⟨si, fun j hj => by rw [km 253 (by omega)]; exact a j hj, ?_⟩
    generalize (x + 9 - n + i) % 9 = z at l9 b ⊢
    have e2 : pL R (63 + 20 * z) = pL K (63 + 20 * z) := by
      show R.2.1 _ 8 = K.2.1 _ 8
      rw [r2]
    rw [e2]
    exact pOk_cc b fun p j hr => congrFun (kk _ (by unfold pRel at hr; omega)) j
  have hv : pSav B R R := pSav_c hr.1 ((congrFun (kk 0 (by omega)) 6).trans (k7 6 (by omega))) (fun a j q1 q2 => by rw [kk a (by omega), c0 a (by omega) (by omega) (by omega) (by omega) (by omega)]) (by rw [r2]; exact cl) ((r9 9 (by omega) (by omega) (by omega) (by omega)).trans (n5 9 (by omega) (by omega))) (fun j => by rw [km 252 (by omega)])
  have hli : pLin R R := pLin_c hr.2.2.2 (by rw [kk 247 (by omega), c0 247 (by omega) (by omega) (by omega) (by omega) (by omega)]) (fun j => by rw [kk 248 (by omega), c0 248 (by omega) (by omega) (by omega) (by omega) (by omega)]) ((r9 12 (by omega) (by omega) (by omega) (by omega)).trans (n5 12 (by omega) (by omega))) (fun j => by rw [km 254 (by omega)])
  have he : pErr R R := by
    obtain ⟨g1, _, _, _⟩ := hr.2.1
    unfold pErr
    rw [kk 0 (by omega), k8, k9, k7 7 (by omega), r9 6 (by omega) (by omega) (by omega) (by omega), n5 6 (by omega) (by omega), r7, r10]
    refine ⟨g1, ⟨rfl, Or.inr ⟨i0, hi, rfl⟩⟩, rfl, ?_⟩
    split
    · exact Or.inr rfl
    · exact Or.inl rfl
  have ht : pTxt R R := ⟨0, by omega, (congrFun (kk 243 (by omega)) 1).trans k1, (r9 15 (by omega) (by omega) (by omega) (by omega)).trans n6, fun j hj => absurd hj (by omega)⟩
  refine ⟨r5, pOld s s', x, n, ⟨r0, hR1, ⟨hx9, hn, ?_, ?_, ?_⟩, hH⟩, hv, he, ht, hli⟩
  · rw [kk 61 (by omega), c0 61 (by omega) (by omega) (by omega) (by omega) (by omega)]; exact h5
  · rw [kk 61 (by omega), c0 61 (by omega) (by omega) (by omega) (by omega) (by omega)]; exact h6
  · rw [r9 4 (by omega) (by omega) (by omega) (by omega), n5 4 (by omega) (by omega)]; exact h7

