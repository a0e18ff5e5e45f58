section
variable {B : Nat} {s : Nat → Nat} {M0 N0 M N : tvM} {n : Nat}
theorem pLx_ev (h : pLx M0 N0 M N n) (hR : pOk B (pV M0 1) (pL M0 1) s) {e : Nat} (he : e < s 11) : f_X4_kindOf M 1 (nI e) = nI (s (166 + 3 * e)) ∧ f_X4_numberOf M 1 (nI e) = nI (s (166 + 3 * e + 2)) ∧ s (166 + 3 * e) < 65536 ∧ s (166 + 3 * e + 2) < 10 := by
  have hR := pLx_ok h hR
  have hE := hR.1.2.2.2.2.1
  have h11 := hR.1.2.1.2.2.2.2.2.2.2.2.2.1
  have eM : puC M 1 (pV M 1) (pL M 1) = M := puC_self M 1
  have hk := hE e (by omega)
  rcases pc_event hR M (nI e) with ⟨j, z, hj, hz, ej, a1, a2, a3, a4, a5⟩ | ⟨h2, _⟩
  · have : e = j := (pn_eq (by omega) (by omega)).1 ej
    subst this
    rw [eM] at a2
    refine ⟨?_, ?_, hk.1, hk.2⟩
    · unfold f_X4_kindOf
      rw [a2, pn_c (by omega), show tgi M (1 + 17) z = nI (s (166 + 3 * e)) from a3, pc_tnc _ hk.1]
    · unfold f_X4_numberOf
      rw [a2, pn_c (by omega)]
      exact a5
  · exact absurd ⟨e, he, rfl⟩ h2
theorem pLx_row (h : pLx M0 N0 M N n) (hs : ∀ k, N0.1 250 k = nI (s k)) (k : Nat) : tgi N 250 k = nI (s k) := (h.2.2.1 250 k (by omega) (by omega)).trans (hs k)
/-- the model's line after i events -/
def pEm (N : tvM) : Nat → tvM
  | 0 => N
  | i + 1 => if nI i ≤ 0 then (f_X9_number (f_X9_puts (pEm N i) (tgi (pEm N i) 250 (166 + (3 * nI i)).toNatClampNeg)) (tgi (f_X9_puts (pEm N i) (tgi (pEm N i) 250 (166 + (3 * nI i)).toNatClampNeg)) 250 ((166 + (3 * nI i)) + 2).toNatClampNeg)) else (f_X9_number (f_X9_puts (f_X9_puts (pEm N i) 32) (tgi (f_X9_puts (pEm N i) 32) 250 (166 + (3 * nI i)).toNatClampNeg)) (tgi (f_X9_puts (f_X9_puts (pEm N i) 32) (tgi (f_X9_puts (pEm N i) 32) 250 (166 + (3 * nI i)).toNatClampNeg)) 250 ((166 + (3 * nI i)) + 2).toNatClampNeg))
theorem pWe (h : pLx M0 N0 M N 0) (hR : pOk B (pV M0 1) (pL M0 1) s) (hs : ∀ k, N0.1 250 k = nI (s k)) : ∀ j, j ≤ s 11 → ∃ m, m ≤ 3 * j ∧ pLx M0 N0 (tvWe M j) (pEm N j) m ∧ (j < s 11 → qb_X9_writeEvents (nI j) (pEm N j)) := by
  have h11 := hR.1.2.1.2.2.2.2.2.2.2.2.2.1
  have e1 : ∀ j, (166 : Int32) + (3 * nI j) = nI (166 + 3 * j) := fun j => by rw [show (3 : Int32) = nI 3 from rfl, pn_mul, show (166 : Int32) = nI 166 from rfl, nI_add]
  have e2 : ∀ j, nI (166 + 3 * j) + 2 = nI (166 + 3 * j + 2) := fun j => by rw [show (2 : Int32) = nI 2 from rfl, nI_add]
  have st : ∀ (M N : tvM) (m j : Nat), pLx M0 N0 M N m → m ≤ 3 * j → j < s 11 → (∃ m', m' ≤ 3 * (j + 1) ∧ pLx M0 N0 (if nI j ≤ 0 then f_X3_addNumber (f_X3_add M (f_X4_kindOf M 1 (nI j))) (f_X4_numberOf (f_X3_add M (f_X4_kindOf M 1 (nI j))) 1 (nI j)) else f_X3_addNumber (f_X3_add (f_X3_add M 32) (f_X4_kindOf (f_X3_add M 32) 1 (nI j))) (f_X4_numberOf (f_X3_add (f_X3_add M 32) (f_X4_kindOf (f_X3_add M 32) 1 (nI j))) 1 (nI j))) (if nI j ≤ 0 then (f_X9_number (f_X9_puts N (tgi N 250 (166 + (3 * nI j)).toNatClampNeg)) (tgi (f_X9_puts N (tgi N 250 (166 + (3 * nI j)).toNatClampNeg)) 250 ((166 + (3 * nI j)) + 2).toNatClampNeg)) else (f_X9_number (f_X9_puts (f_X9_puts N 32) (tgi (f_X9_puts N 32) 250 (166 + (3 * nI j)).toNatClampNeg)) (tgi (f_X9_puts (f_X9_puts N 32) (tgi (f_X9_puts N 32) 250 (166 + (3 * nI j)).toNatClampNeg)) 250 ((166 + (3 * nI j)) + 2).toNatClampNeg))) m') ∧ qb_X9_writeEvents (nI j) N := by
    intro M N m j hL hm hj
    obtain ⟨k1, k2, k3, k4⟩ := pLx_ev hL hR hj
    -- without a blank
    have a1 := pLx_add (ch := s (166 + 3 * j)) hL (by omega) k3
    have a2 := pLx_num (v := s (166 + 3 * j + 2)) a1.1 (by rw [if_pos k4]; omega) (by omega)
    rw [if_pos k4] at a2
    have r1 := pLx_row hL hs (166 + 3 * j)
    have r2 := pLx_row a1.1 hs (166 + 3 * j + 2)
    have n1 := (pLx_ev a1.1 hR hj).2.1
    -- with one
    have b0 := pLx_add (ch := 32) hL (by omega) (by omega)
    have b1 := pLx_add (ch := s (166 + 3 * j)) b0.1 (by omega) k3
    have b2 := pLx_num (v := s (166 + 3 * j + 2)) b1.1 (by rw [if_pos k4]; omega) (by omega)
    rw [if_pos k4] at b2
    have l1 := (pLx_ev b0.1 hR hj).1
    have l2 := (pLx_ev b1.1 hR hj).2.1
    have s1 := pLx_row b0.1 hs (166 + 3 * j)
    have s2 := pLx_row b1.1 hs (166 + 3 * j + 2)
    rw [show nI 32 = (32 : Int32) from rfl] at b0 b1 b2 l1 l2 s1 s2
    rw [e1, e2, pn_c (by omega), pn_c (by omega)]
    constructor
    · by_cases q : nI j ≤ 0
      · rw [if_pos q, if_pos q, k1, n1, r1, r2]
        exact ⟨_, by omega, a2.1⟩
      · rw [if_neg q, if_neg q, l1, l2, s1, s2]
        exact ⟨_, by omega, b2.1⟩
    · unfold qb_X9_writeEvents
      rw [e1, e2, pn_c (by omega), pn_c (by omega)]
      have v1 : vp_in (nI (166 + 3 * j)) 202 := vp_in_nI (by omega) (by omega)
      have v2 : vp_in (nI (166 + 3 * j + 2)) 202 := vp_in_nI (by omega) (by omega)
      refine ⟨fun _ => trivial, fun _ => ⟨fun _ => ⟨v1, ?_, v2, ?_, trivial⟩, fun _ => ⟨b0.2, v1, ?_, v2, ?_, trivial⟩⟩⟩
      · rw [r1]; exact a1.2
      · rw [r1, r2]; exact a2.2
      · rw [s1]; exact b1.2
      · rw [s1, s2]; exact b2.2
  intro j
  induction j with
  | zero =>
    intro hj
    exact ⟨0, by omega, h, fun hp => (st _ _ 0 0 h (by omega) hp).2⟩
  | succ j ih =>
    intro hj
    obtain ⟨m, hm, hL, _⟩ := ih (by omega)
    obtain ⟨⟨m', hm', hL'⟩, _⟩ := st _ _ m j hL hm (by omega)
    exact ⟨m', hm', hL', fun hp => (st _ _ m' (j + 1) hL' hm' hp).2⟩
theorem pEvLine (hR : pOk B (pV M0 1) (pL M0 1) s) (hs : ∀ k, N0.1 250 k = nI (s k)) : ∃ (K : tvM) (m : Nat), m ≤ 36 ∧ pLx M0 (tpi N0 249 5 0) (tvWeM M0) K m ∧ q_X9_writeEvents N0 ∧ f_X9_writeEvents N0 = (nI m, K) := by
  have h11 := hR.1.2.1.2.2.2.2.2.2.2.2.2.1
  have hs5 : ∀ k, (tpi N0 249 5 0).1 250 k = nI (s k) := fun k => (tpi_o _ _ k (by omega)).trans (hs k)
  have a0 := pLx_new M0 N0
  have hW := pWe a0 hR hs5
  obtain ⟨K, hK⟩ : ∃ z, z = tpi (tpi N0 249 5 0) 249 12 0 := ⟨_, rfl⟩
  rw [← hK] at hW
  obtain ⟨m, hm, hL, _⟩ := hW (s 11) (Nat.le_refl _)
  have eW : tvWeM M0 = tvWe (f_X3_empty M0) (s 11) := by
    unfold tvWeM
    rw [show tgi M0 17 1 = nI (s 11) from hR.2.2.2.2.choose_spec.2.2.1, pn_c (by omega)]
  have he' : e_X9_writeEvents N0 = .inl (nI 0, pEm K 0) := by
    unfold e_X9_writeEvents
    rw [← hK]
    rfl
  have lp := pFor s_X9_writeEvents qs_X9_writeEvents (fun j => (nI j, pEm K j)) (s 11) (nI m, pEm K (s 11)) (fun j hj => by
    obtain ⟨m', hm', hL', _⟩ := hW j (by omega)
    unfold s_X9_writeEvents sb_X9_writeEvents
    simp only []
    rw [pLx_row hL' hs5 11, if_neg (by rw [pn_le (by omega) (by omega)]; omega), nI_1]
    by_cases q : nI j ≤ 0
    · rw [if_pos q]
      show _ = Sum.inl (nI (j + 1), if nI j ≤ 0 then _ else _)
      rw [if_pos q]
    · rw [if_neg q]
      show _ = Sum.inl (nI (j + 1), if nI j ≤ 0 then _ else _)
      rw [if_neg q]) (fun j hj => by
    obtain ⟨m', hm', hL', hq⟩ := hW j hj
    unfold qs_X9_writeEvents
    by_cases q : j < s 11
    · exact hq q
    · unfold qb_X9_writeEvents
      refine ⟨fun _ => trivial, fun hn => absurd ?_ hn⟩
      simp only []
      rw [pLx_row hL' hs5 11, pn_le (by omega) (by omega)]
      omega) (by
    unfold s_X9_writeEvents sb_X9_writeEvents
    simp only []
    rw [pLx_row hL hs5 11, if_pos (by rw [pn_le (by omega) (by omega)]; omega), show tgi (pEm K (s 11)) 249 12 = nI m from hL.1.2.1]) 5000 (by omega)
  rw [← he'] at lp
  refine ⟨_, m, by omega, ?_, ⟨trivial, ⟨_, lp.1⟩, lp.2⟩, pGet lp.1⟩
  rw [eW]
  exact hL
end
/-- after a line is written on both sides -/
theorem pJ_line {B : Nat} {M M1 M' K : tvM} {s : Nat → Nat} {x n m : Nat} (h : pJs B M M s x n) (hr : pJr B M M) (hm : m ≤ 36) (hL : pLx M (tpi M' 249 5 0) M1 K m) (e1 : M'.1 = M1.1) (e2 : ∀ a, a < 249 → M'.2.1 a = M1.2.1 a) : pJ B K K ∧ tgi K 249 5 = 0 := by
  obtain ⟨⟨l1, l2, l3⟩, ⟨h4, h5⟩, h6, h7⟩ := hL
  have k0 : ∀ a k, a ≠ 254 → a ≠ 249 → K.1 a k = M1.1 a k := fun a k q1 q2 => by
    rw [h6 a k q1 (by omega), ← e1]
    exact tpi_o _ _ k q2
  have k9 : ∀ k, k ≠ 12 → k ≠ 5 → K.1 249 k = M1.1 249 k := fun k q1 q2 => by
    rw [h6 249 k (by omega) (by omega), ← e1]
    exact tpi_k _ _ _ q2
  have c0 : ∀ a k, a ≠ 247 → a ≠ 248 → a ≠ 254 → a ≠ 249 → K.1 a k = M.1 a k := fun a k q1 q2 q3 q4 => (k0 a k q3 q4).trans (h4 a k q1 q2)
  have c9 : ∀ k, k ≠ 12 → k ≠ 5 → K.1 249 k = M.1 249 k := fun k q1 q2 => (k9 k q1 q2).trans (h4 249 k (by omega) (by omega))
  have cl : ∀ a, a < 249 → K.2.1 a = M.2.1 a := fun a ha => by
    rw [h7]
    show M'.2.1 a = M.2.1 a
    rw [e2 a ha, h5]
  refine ⟨⟨s, x, n, pJs_c h (fun a k q1 q2 => c0 a k (by omega) (by omega) (by omega) (by omega)) (fun a q1 => cl a (by omega)) (fun k => c0 _ _ (by omega) (by omega) (by omega) (by omega)) (fun k => c0 _ _ (by omega) (by omega) (by omega) (by omega)) (c9 4 (by omega) (by omega)), pSav_c hr.1 (c0 _ _ (by omega) (by omega) (by omega) (by omega)) (fun a k _ _ => c0 _ _ (by omega) (by omega) (by omega) (by omega)) (by rw [cl 41 (by omega)]) (c9 9 (by omega) (by omega)) (fun k => c0 _ _ (by omega) (by omega) (by omega) (by omega)), pErr_c hr.2.1 (fun k _ _ => c0 _ _ (by omega) (by omega) (by omega) (by omega)) (c9 6 (by omega) (by omega)) (c9 7 (by omega) (by omega)) (c9 10 (by omega) (by omega)), pTxt_c hr.2.2.1 (c0 _ _ (by omega) (by omega) (by omega) (by omega)) (fun k => c0 _ _ (by omega) (by omega) (by omega) (by omega)) (c9 15 (by omega) (by omega)) (fun k => c0 _ _ (by omega) (by omega) (by omega) (by omega)), m, hm, ?_, l2, fun k hk => ?_⟩, ?_⟩
  · rw [k0 247 1 (by omega) (by omega)]
    exact l1
  · obtain ⟨ch, d1, d2, d3⟩ := l3 k hk
    exact ⟨ch, d1, (k0 248 k (by omega) (by omega)).trans d2, d3⟩
  · show K.1 249 5 = 0
    rw [h6 249 5 (by omega) (by omega)]
    exact tpi_s _ _ _ _
theorem pc_38 {B : Nat} {M : tvM} (h : pJ B M M) (hB : B ≤ 10000000) (a1 a2 a3 : Int32) : lq_38 M a1 a2 a3 ∧ pJ B (lm_38 M a1 a2 a3) (lm_38 M a1 a2 a3) := by
  obtain ⟨s, x, n, hJ, hr⟩ := h
  have rows : ∀ a k, a ≠ 247 → a ≠ 248 → (tvWeM M).1 a k = M.1 a k := fun a k q1 q2 => by
    obtain ⟨K, m, _, hL, _⟩ := pEvLine (N0 := M) hJ.2.1 hJ.1
    exact hL.2.1.1 a k q1 q2
  obtain ⟨K, m, hm, hL, q9, e9⟩ := pEvLine (N0 := tvWeM M) hJ.2.1 (fun k => by rw [rows 250 k (by omega) (by omega)]; exact hJ.1 k)
  obtain ⟨hj, _⟩ := pJ_line hJ hr hm hL rfl (fun _ _ => rfl)
  have e8 : f_X8_writeEvents M = (nI m, tvWeM M) := by
    unfold f_X8_writeEvents
    rw [show tgi (tvWeM M) 247 1 = nI m from hL.1.1]
  unfold lq_38 lm_38
  rw [e8]
  dsimp only
  rw [e9]
  exact ⟨⟨q9, rfl, trivial⟩, hj⟩
theorem pc_37 {B : Nat} {M : tvM} (h : pJ B M M) (hB : B ≤ 10000000) (a1 a2 a3 : Int32) : lq_37 M a1 a2 a3 ∧ pJ B (lm_37 M a1 a2 a3) (lm_37 M a1 a2 a3) := by
  obtain ⟨s, x, n, hJ, hr⟩ := h
  have hR := hJ.2.1
  have s10 := hR.1.2.1.2.2.2.2.2.2.2.2.1
  have c60 := hR.2.1.2.2.2.2.2.2.2.2
  by_cases q : ∃ i, i < s 10 ∧ a1 = nI i
  · obtain ⟨i, hi, rfl⟩ := q
    have k1 : f_X0_has M 1 (nI i) = 1 := by
      have := pc_has1 M 1 (pL M 1) c60 s10 hi
      rwa [pc_self hJ] at this
    obtain ⟨K0, m0, _, hL0, _⟩ := pBoxLine (N0 := M) hJ.2.1 hJ.1 hi
    obtain ⟨M', hM'⟩ : ∃ z, z = tpl (tvWbM M (nI i)) 257 0 (nI m0).toInt64 := ⟨_, rfl⟩
    have m1 : M'.1 = (tvWbM M (nI i)).1 := by rw [hM']; rfl
    obtain ⟨K, m, hm, hL, q9, e9⟩ := pBoxLine (N0 := M') hJ.2.1 (fun k => by rw [m1, hL0.2.1.1 250 k (by omega) (by omega)]; exact hJ.1 k) hi
    have em : nI m = nI m0 := hL.1.1.symm.trans hL0.1.1
    obtain ⟨hj, h5⟩ := pJ_line hJ hr hm hL m1 (fun a ha => by rw [hM']; exact tpl_o _ 0 _ (by omega))
    have e8 : f_X8_writeBox M (nI i) = (none, nI m, tvWbM M (nI i)) := by
      unfold f_X8_writeBox f_X8_refusalOfBoxNumber
      rw [k1, if_neg p10, pRef_0, if_pos rfl, show tgi (tvWbM M (nI i)) 247 1 = nI m from hL.1.1]
    have eL : f_L_writeBox M (nI i) = (0, M') := by
      unfold f_L_writeBox
      rw [e8, hM', em]
      rfl
    unfold lq_37 lm_37
    rw [eL]
    dsimp only
    rw [e9]
    refine ⟨⟨⟨fun e he => ?_, trivial⟩, q9, h5, fun _ => ?_, trivial⟩, hj⟩
    · rw [e8] at he
      exact absurd he (by simp)
    · rw [show tgl K 257 0 = (nI m).toInt64 from by show K.2.1 257 0 = _; rw [hL.2.2.2]; show M'.2.1 257 0 = _; rw [hM', em]; exact tpl_s _ _ _ _]
      exact lg_self _
  · have k0 : f_X0_has M 1 a1 = 0 := by
      have := pc_has0 M 1 (pL M 1) c60 s10 q
      rwa [pc_self hJ] at this
    have e8 : f_X8_writeBox M a1 = (some "java/lang/IndexOutOfBoundsException", 0, M) := by
      unfold f_X8_writeBox f_X8_refusalOfBoxNumber
      rw [k0, if_pos rfl, pRef_1]
      simp
    have eL : f_L_writeBox M a1 = (1, M) := by
      unfold f_L_writeBox
      rw [e8]
      rfl
    have g1 : f_X9_isBox M a1 = nI 0 := by
      have := px_box0 M s (M.1 249 5) a1 s10 q
      rwa [puN_self hJ.1 rfl] at this
    have he' : e_X9_writeBox M a1 = .inr (nI 0, puN M s (nI 1)) := by
      unfold e_X9_writeBox
      rw [g1, if_pos (show nI 0 = 0 from rfl), px_thrn, tpi_puN hJ.1]
      rfl
    have lp : pEnd (s_X9_writeBox a1) (qs_X9_writeBox a1) 5000 (.inr (nI 0, puN M s (nI 1))) (nI 0, puN M s (nI 1)) := pEnd_r _ _
    rw [← he'] at lp
    have e9 : f_X9_writeBox M a1 = (nI 0, puN M s (nI 1)) := pGet lp.1
    unfold lq_37 lm_37
    rw [eL]
    dsimp only
    rw [e9]
    refine ⟨⟨⟨fun e he => ?_, trivial⟩, ⟨⟨fun _ => trivial, fun hn => absurd (by rw [g1]; rfl) hn⟩, ⟨_, lp.1⟩, lp.2⟩, puN_t _ _ _, fun n0 => absurd n0 (by decide), trivial⟩, pJ_q hJ hr hB rfl (fun _ _ => rfl) _⟩
    rw [e8] at he
    exact (Option.some.inj he).symm

